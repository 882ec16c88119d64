import java.lang.reflect.Constructor;
import java.lang.reflect.Field;
import java.lang.reflect.Method;
import java.lang.reflect.Modifier;
import java.nio.charset.StandardCharsets;
import java.nio.file.Files;
import java.nio.file.Path;
import java.util.Arrays;
import java.util.Set;
import java.util.TreeSet;
import java.util.regex.Matcher;
import java.util.regex.Pattern;

/** The public face of the class, and the rules of LANGUAGE.md that its source or its members show. */
public final class FaceTest {
    private static final String SOURCE = "src/main/java/CoastLamps.java";

    private static final Set<String> FACE = new TreeSet<>(Arrays.asList(
        "int BAD = -1", "int FULL = -2", "int LACK = -3", "int CAST = -4", "CoastLamps[]",
        "int dial[int, int]", "int lamp[int, int]", "long ask[int, int, int]", "int trace[int]",
        "long haul[int]", "int fill[int, int]", "int light[int, boolean]", "int night[int]",
        "int seen[int]", "int blow[int, int]", "int blown[]", "long told[int, int]", "int count[int]",
        "long store[]"));

    private static int wrong = 0;

    private static void fault(String what) {
        wrong++;
        System.out.println(what);
    }

    private static String types(Class<?>[] types) {
        String[] names = new String[types.length];
        for (int i = 0; i < names.length; i++) {
            names[i] = types[i].getSimpleName();
        }
        return Arrays.toString(names);
    }

    private static void face() throws IllegalAccessException {
        Set<String> open = new TreeSet<>();
        Set<String> openNames = new TreeSet<>();
        for (Field f : CoastLamps.class.getDeclaredFields()) {
            if (Modifier.isPrivate(f.getModifiers())) {
                continue;
            }
            if (f.getModifiers() != (Modifier.PUBLIC | Modifier.STATIC | Modifier.FINAL)) {
                fault("rule 1: field " + f);
                continue;
            }
            open.add(f.getType() + " " + f.getName() + " = " + f.get(null));
        }
        for (Constructor<?> c : CoastLamps.class.getDeclaredConstructors()) {
            open.add("CoastLamps" + types(c.getParameterTypes()));
        }
        for (Method m : CoastLamps.class.getDeclaredMethods()) {
            if (!Modifier.isPrivate(m.getModifiers())) {
                open.add(m.getReturnType() + " " + m.getName() + types(m.getParameterTypes()));
                openNames.add(m.getName());
                if (m.getModifiers() != Modifier.PUBLIC) {
                    fault("rule 1: method " + m);
                }
            }
        }
        if (!open.equals(FACE)) {
            fault("the face is " + open + ", due is " + FACE);
        }
        if (CoastLamps.class.getModifiers() != (Modifier.PUBLIC | Modifier.FINAL)) {
            fault("the class is not public and final alone");
        }
        privateNames(CoastLamps.class, openNames);
        for (Class<?> inside : CoastLamps.class.getDeclaredClasses()) {
            if (!Modifier.isStatic(inside.getModifiers())) {
                fault("rule 2: " + inside + " is not static");
            }
            privateNames(inside, openNames);
            form(inside);
        }
        form(CoastLamps.class);
        if (CoastLamps.class.getDeclaredClasses().length + 1 > 12) {
            fault("rule 11: more than twelve classes");
        }
    }

    private static void privateNames(Class<?> of, Set<String> openNames) {
        for (Method m : of.getDeclaredMethods()) {
            if (Modifier.isPrivate(m.getModifiers()) && openNames.contains(m.getName())) {
                fault("rule 1: private method " + m);
            }
        }
    }

    /** Rules 5 and 11 of one class: what is static is a constant, and nothing grows too many. */
    private static void form(Class<?> of) {
        int held = 0;
        for (Field f : of.getDeclaredFields()) {
            boolean constant = Modifier.isFinal(f.getModifiers())
                && (f.getType().isPrimitive() || f.getType() == String.class);
            if (Modifier.isStatic(f.getModifiers()) && !constant) {
                fault("rule 5: " + f);
            }
            held += Modifier.isStatic(f.getModifiers()) ? 0 : 1;
        }
        if (held > 20) {
            fault("rule 11: " + of + " has " + held + " fields");
        }
        for (Method m : of.getDeclaredMethods()) {
            if (m.getParameterCount() > 7) {
                fault("rule 11: " + m + " takes more than seven");
            }
            if (m.getExceptionTypes().length > 0) {
                fault("rule 6: " + m + " says that it throws");
            }
        }
    }

    private static void words() throws java.io.IOException {
        String text = new String(Files.readAllBytes(Path.of(SOURCE)), StandardCharsets.UTF_8);
        String code = text.replaceAll("(?s)/\\*.*?\\*/", " ").replaceAll("//[^\\n]*", " ");
        String banned = "\\b(package|import|throw|throws|try|catch|synchronized|assert|protected|volatile"
            + "|transient|native|Object|System\\.(?!arraycopy)\\w+|Thread|Random|\\w+Exact)\\b|->|::|@";
        Matcher m = Pattern.compile(banned).matcher(code);
        while (m.find()) {
            fault("LANGUAGE.md: the source has '" + m.group() + "'");
        }
        for (int i = 0; i < text.length(); i++) {
            if (text.charAt(i) > 127) {
                fault("the source has a character above 127 at " + i);
            }
        }
    }

    public static void main(String[] args) throws Exception {
        face();
        words();
        System.out.println(wrong == 0 ? "the face is as due" : wrong + " faults");
        if (wrong != 0) {
            System.exit(1);
        }
    }
}
