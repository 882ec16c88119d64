import java.util.ArrayList;
import java.util.Arrays;
import java.util.List;
import java.util.Map;
import java.util.TreeMap;
import java.util.function.IntUnaryOperator;
import java.util.function.ToLongFunction;

/**
 * Sentences of DOC.md that neither a promise's own test nor a boundary's speaks of: what each call changes and
 * that it changes nothing else, which dial counts in which body, what belongs to one lamp alone, runs of nights,
 * and that every call with any ints, in any state, answers.
 */
public final class SentenceTests {
    private static final int BAD = -1, FULL = -2, LACK = -3, CAST = -4;
    private static final long LEAST = Long.MIN_VALUE, CAST_LONG = Long.MIN_VALUE + 1;
    private static final int MAX = Integer.MAX_VALUE, MIN = Integer.MIN_VALUE;

    private static final int OIL = 1, ROUND = 2, TWIN = 3, DRUM = 4, SWING = 5;
    private static final int GAS = 6, FLARE = 7, BUOY = 8, OUTER = 9;
    private static final int BURN = 0, REACH = 1, FLASH = 2, TEND = 3, RANK = 4, HORN = 5, TONE = 6;

    private static final String[] TOLD = {"kind", "height", "tank", "soot", "lit", "horned"};

    private static int wrong = 0;
    private static int sentences = 0;
    private static String sentence = "";

    private static void sentence(String words, Runnable test) {
        sentence = words;
        sentences++;
        test.run();
    }

    private static void fault(String what) {
        if (wrong++ < 60) {
            System.out.println("\"" + sentence + "\": " + what);
        }
    }

    private static void due(String call, long got, long want) {
        if (got != want) {
            fault(call + " answered " + got + ", due is " + want);
        }
    }

    /** Hands out the object for one call more; past the 512th nothing is promised, so no test may rest there. */
    private static final class Run {
        private final CoastLamps object = new CoastLamps();
        private int calls = 0;

        CoastLamps call() {
            calls++;
            if (calls > 512) {
                throw new IllegalStateException("the test under \"" + sentence + "\" makes more than 512 calls");
            }
            return object;
        }

        Run dials(int... values) {
            for (int k = 0; k < values.length; k++) {
                call().dial(k, values[k]);
            }
            return this;
        }

        Run lamp(int kind, int height) {
            call().lamp(kind, height);
            return this;
        }

        Run filled(int lamp, int n) {
            call().haul(n);
            call().fill(lamp, n);
            return this;
        }

        Run lit(int lamp, int n) {
            filled(lamp, n).call().light(lamp, true);
            return this;
        }

        void asks(int lamp, int member, int n, long want) {
            due("ask(" + lamp + ", " + member + ", " + n + ")", call().ask(lamp, member, n), want);
        }

        void tells(int lamp, int what, long want) {
            due("told(" + lamp + ", " + what + ")", call().told(lamp, what), want);
        }

        String trace() {
            int[] entries = new int[Math.max(call().count(2), 0)];
            for (int i = 0; i < entries.length; i++) {
                entries[i] = call().trace(i);
            }
            return Arrays.toString(entries);
        }

        /** All that the face tells, each thing under its name. */
        Map<String, String> all() {
            Map<String, String> all = new TreeMap<>();
            int lamps = call().count(0);
            all.put("lamps", "" + lamps);
            all.put("nights", "" + call().count(1));
            all.put("acts", "" + call().count(3));
            all.put("store", "" + call().store());
            all.put("blown", "" + call().blown());
            all.put("trace", trace());
            for (int k = 0; k < 8; k++) {
                int value = call().dial(k, 0);
                call().dial(k, value);
                all.put("D" + k, "" + value);
            }
            for (int lamp = 0; lamp < lamps; lamp++) {
                for (int what = 0; what < TOLD.length; what++) {
                    all.put(TOLD[what] + " of " + lamp, "" + call().told(lamp, what));
                }
            }
            return all;
        }
    }

    private static Run one(int kind, int height, int... dials) {
        return new Run().dials(dials).lamp(kind, height);
    }

    /**
     * One lamp of each kind (kind k is number k - 1, 37 k high, 1000 + k in its tank), those of even numbers LIT,
     * sooted by a BURN of 20 each, and the TWIN's horn blown: 10 acts, and 90955 in the store.
     */
    private static Run harbour() {
        Run r = new Run().dials(2, 3, 5, 7, 0, 11, 13, 17);
        r.call().haul(100000);
        for (int kind = OIL; kind <= OUTER; kind++) {
            r.lamp(kind, 37 * kind);
            r.call().fill(kind - 1, 1000 + kind);
            r.call().ask(kind - 1, BURN, 20);
        }
        for (int lamp = 0; lamp < 9; lamp += 2) {
            r.call().light(lamp, true);
        }
        r.call().blow(2, 4);
        return r;
    }

    /** The call answers so, and of all that the face tells just these things become other ("store=5"). */
    private static void changes(Run r, String call, ToLongFunction<CoastLamps> action, long want, String... due) {
        Map<String, String> before = r.all();
        due(call, action.applyAsLong(r.call()), want);
        Map<String, String> behind = r.all();
        List<String> got = new ArrayList<>();
        for (Map.Entry<String, String> thing : behind.entrySet()) {
            if (!thing.getValue().equals(before.get(thing.getKey()))) {
                got.add(thing.getKey() + "=" + thing.getValue());
            }
        }
        List<String> wanted = new ArrayList<>(Arrays.asList(due));
        got.sort(null);
        wanted.sort(null);
        if (!got.equals(wanted)) {
            fault(call + " changed " + got + ", due is " + wanted);
        }
    }

    private static void whatACallChanges() {
        sentence("A new object: No LAMPS; night 0: and nothing else is there", () -> {
            Map<String, String> all = new Run().all();
            String due = "{D0=0, D1=0, D2=0, D3=0, D4=0, D5=0, D6=0, D7=0, acts=0, blown=0, lamps=0, nights=0, "
                + "store=0, trace=[]}";
            if (!all.toString().equals(due)) {
                fault("a new object tells " + all);
            }
        });
        sentence("DIAL k becomes v: and nothing else", () -> {
            int[] was = {2, 3, 5, 7, 0, 11, 13, 17};
            for (int k = 0; k < 8; k++) {
                int dial = k;
                changes(harbour(), "dial(" + k + ", 999)", x -> x.dial(dial, 999), was[k], "D" + k + "=999");
            }
        });
        sentence("A LAMP of a KIND: its number: those that were there stay as they are", () -> {
            for (int kind = OIL; kind <= OUTER; kind++) {
                int made = kind;
                changes(harbour(), "lamp(" + kind + ", 41)", x -> x.lamp(made, 41), 9, "lamps=10",
                    "kind of 9=" + kind, "height of 9=41", "tank of 9=0", "soot of 9=0", "lit of 9=0",
                    "horned of 9=" + (kind >= TWIN && kind != GAS ? 1 : 0));
            }
        });
        sentence("n come into THE STORE: into no TANK",
            () -> changes(harbour(), "haul(45)", x -> x.haul(45), 91000, "store=91000"));
        sentence("n go from THE STORE into the TANK of a LAMP: of that one, LIT or not", () -> {
            changes(harbour(), "fill(3, 5)", x -> x.fill(3, 5), 1009, "store=90950", "tank of 3=1009");
            changes(harbour(), "fill(4, 5)", x -> x.fill(4, 5), 1010, "store=90950", "tank of 4=1010");
        });
        sentence("A LAMP is LIT, or put out: that one, and it keeps its TANK and its SOOT", () -> {
            changes(harbour(), "light(3, true)", x -> x.light(3, true), 1, "lit of 3=1");
            changes(harbour(), "light(4, false)", x -> x.light(4, false), 1, "lit of 4=0");
        });
        sentence("each LIT LAMP .. is asked for BURN of h: that goes out of its TANK: of those, and nothing else",
            () -> changes(harbour(), "night(10)", x -> x.night(10), 0, "nights=1", "acts=11",
                "trace=[10, 0, 30, 10, 0, 10, 0, 50, 30, 10, 0, 10, 0, 70, 0, 90, 70, 0]",
                "tank of 0=980", "soot of 0=30", "tank of 2=959", "soot of 2=60", "tank of 4=956", "soot of 4=60",
                "tank of 6=996", "soot of 6=15", "tank of 8=1001", "soot of 8=15"));
        sentence("The LIT LAMP with the greatest REACH: it is sought, and nothing else is changed",
            () -> changes(harbour(), "seen(3)", x -> x.seen(3), 4, "acts=11",
                "trace=[1, 31, 21, 1, 21, 1, 41, 31, 21, 1, 21, 1, 61, 1, 81, 61, 1]"));
        sentence("A LAMP's HORN is blown by n: and nothing else", () -> {
            changes(harbour(), "blow(3, 2)", x -> x.blow(3, 2), 1, "acts=11", "blown=108",
                "trace=[5, 46, 16, 41, 31, 21, 1, 21, 1]");
            changes(harbour(), "blow(4, 2)", x -> x.blow(4, 2), 1, "acts=11", "blown=20", "trace=[55, 46, 16]");
            changes(harbour(), "blow(5, 2)", x -> x.blow(5, 2), CAST, "acts=11", "trace=[]");
        });
        sentence("Entry i of THE TRACE; blown(); told(); count(); store(): telling changes nothing", () -> {
            changes(harbour(), "trace(0)", x -> x.trace(0), 5);
            changes(harbour(), "trace(6)", x -> x.trace(6), 1);
            changes(harbour(), "blown()", x -> x.blown(), 95);
            changes(harbour(), "store()", x -> x.store(), 90955);
            for (int what = 0; what <= 3; what++) {
                int counted = what;
                changes(harbour(), "count(" + what + ")", x -> x.count(counted), new int[] {9, 0, 7, 10}[what]);
            }
            for (int what = 0; what <= 5; what++) {
                int told = what;
                changes(harbour(), "told(4, " + what + ")", x -> x.told(4, told),
                    new int[] {5, 185, 1005, 40, 1, 1}[what]);
            }
        });
    }

    /** Of an ask that is no CAST all stays but the acts, the trace, and the SOOT of that lamp where it says so. */
    private static void askChanges(int lamp, int member, int n, long soot) {
        Run r = harbour();
        Map<String, String> before = r.all();
        r.call().ask(lamp, member, n);
        Map<String, String> behind = r.all();
        before.put("acts", "11");
        before.put("soot of " + lamp, "" + soot);
        before.put("trace", behind.get("trace"));
        if (!before.equals(behind)) {
            fault("behind ask(" + lamp + ", " + member + ", " + n + ") is " + behind + ", due is " + before);
        }
    }

    private static void whatAnAskChanges() {
        int[] soot = {20, 20, 40, 40, 40, 20, 10, 10, 10};
        sentence("BURN: SOOT becomes h more: of that LAMP, and its TANK is as it was", () -> {
            int[] due = {30, 30, 60, 60, 60, 30, 15, 15, 15};
            for (int lamp = 0; lamp < 9; lamp++) {
                askChanges(lamp, BURN, 10, due[lamp]);
            }
        });
        sentence("TEND: SOOT becomes n less: of that LAMP, and nothing else", () -> {
            int[] due = {16, 14, 34, 24, 24, 16, 6, 6, 6};
            for (int lamp = 0; lamp < 9; lamp++) {
                askChanges(lamp, TEND, 4, due[lamp]);
            }
        });
        sentence("REACH, FLASH, RANK of a LAMP are asked: nothing is changed", () -> {
            for (int lamp = 0; lamp < 9; lamp++) {
                for (int member : new int[] {REACH, FLASH, RANK}) {
                    askChanges(lamp, member, 6, soot[lamp]);
                }
            }
        });
        sentence("HORN, TONE of a LAMP are asked: nothing is changed, blown() neither", () -> {
            for (int lamp : new int[] {2, 3, 4, 6, 7, 8}) {
                askChanges(lamp, HORN, 6, soot[lamp]);
                askChanges(lamp, TONE, 6, soot[lamp]);
            }
        });
        sentence("A MEMBER of a LAMP is asked: alike, if it is LIT and if it is not", () -> {
            for (int kind = OIL; kind <= OUTER; kind++) {
                for (int member = BURN; member <= TONE; member++) {
                    Run out = one(kind, 99, 2, 3, 5, 7, 0, 11).filled(0, 50);
                    Run lit = one(kind, 99, 2, 3, 5, 7, 0, 11).lit(0, 50);
                    lit.asks(0, member, 6, out.call().ask(0, member, 6));
                }
            }
        });
        sentence("A LAMP's HORN is blown: alike, if it is LIT, if it is not, and with an empty TANK", () -> {
            Run r = one(FLARE, 99);
            due("blow(0, 3), empty", r.call().blow(0, 3), 1);
            due("blown()", r.call().blown(), 66);
            r.filled(0, 30);
            due("blow(0, 4), filled", r.call().blow(0, 4), 1);
            due("blown()", r.call().blown(), 75);
            r.call().light(0, true);
            due("blow(0, 5), LIT", r.call().blow(0, 5), 1);
            due("blown()", r.call().blown(), 84);
        });
    }

    /** Whether the answer of a member, or the SOOT behind it, is another one with this dial at 9 than at 0. */
    private static boolean counts(int dial, int kind, int member) {
        Run without = one(kind, 185);
        Run with = one(kind, 185);
        with.call().dial(dial, 9);
        for (Run r : new Run[] {without, with}) {
            r.call().ask(0, TEND, -100);
        }
        return without.call().ask(0, member, 12) != with.call().ask(0, member, 12)
            || without.call().told(0, 3) != with.call().told(0, 3);
    }

    private static void dialCounts(int dial, int... pairs) {
        List<Integer> due = new ArrayList<>();
        for (int pair : pairs) {
            due.add(pair);
        }
        List<Integer> got = new ArrayList<>();
        for (int kind = OIL; kind <= OUTER; kind++) {
            for (int member = BURN; member <= TONE; member++) {
                if (counts(dial, kind, member)) {
                    got.add(10 * kind + member);
                }
            }
        }
        if (!got.equals(due)) {
            fault("D" + dial + " counts in (10 KIND + MEMBER) " + got + ", due is " + due);
        }
    }

    private static void dialsInBodies() {
        sentence("h * D0 and 1: D0 counts in BURN, of each KIND", () -> dialCounts(0, 10, 20, 30, 40, 50, 60, 70, 80, 90));
        sentence("OUTER: ABOVE of h less D1: D1 counts there alone", () -> {
            Run r = one(OUTER, 0, 2, 9);
            r.asks(0, BURN, 12, 4);
            dialCounts(1, 90);
        });
        sentence("ROUND: ABOVE of m, and D2: D2 counts in REACH of it and those of it, and in their lent HORN",
            () -> dialCounts(2, 21, 31, 35, 41, 45, 51));
        sentence("DRUM: ABOVE of n + D3: D3 counts in TEND of it and those of it", () -> {
            for (int kind = OIL; kind <= OUTER; kind++) {
                Run r = one(kind, 185);
                r.call().ask(0, TEND, -100);
                long soot = r.call().told(0, 3);
                r.call().dial(3, 9);
                boolean halved = kind >= ROUND && kind <= SWING;
                int gone = kind == DRUM || kind == SWING ? 21 + 10 : halved ? 12 + 6 : 12;
                r.asks(0, TEND, 12, soot - gone);
            }
        });
        sentence("BUOY: ABOVE of n, if D4 is 0; else D4: of it and those of it", () -> {
            for (int kind = OIL; kind <= OUTER; kind++) {
                Run r = one(kind, 185);
                r.call().ask(0, TEND, -100);
                long soot = r.call().told(0, 3);
                r.call().dial(4, 9);
                boolean halved = kind >= ROUND && kind <= SWING;
                r.asks(0, TEND, 12, kind >= BUOY ? 9 : soot - (halved ? 18 : 12));
                r.tells(0, 3, kind >= BUOY ? soot : soot - (halved ? 18 : 12));
            }
        });
        sentence("TONE: DRUM: ABOVE and D5: D5 counts in TONE of it and those of it, and in their HORN",
            () -> dialCounts(5, 45, 46, 55, 56));
        sentence("DIALS D0 .. D7: no BODY names D6", () -> dialCounts(6));
        sentence("DIALS D0 .. D7: no BODY names D7", () -> dialCounts(7));
        sentence("DIAL k becomes v: for LAMPS that were made before it too", () -> {
            Run r = new Run().lamp(SWING, 0).lamp(OUTER, 0);
            r.asks(0, BURN, 0, 2);
            r.asks(0, REACH, 0, 43);
            r.asks(0, TEND, -2, 3);
            r.asks(0, TONE, 0, 7);
            r.asks(1, BURN, 0, 1);
            r.asks(1, TEND, -2, 2);
            r.dials(4, 1, 6, 3, 8, 5);
            r.asks(0, BURN, 2, 19);
            r.asks(0, REACH, 0, 52);
            r.asks(0, TEND, 1, 1);
            r.asks(0, TONE, 0, 12);
            r.asks(1, BURN, 4, 8);
            r.asks(1, TEND, 1, 8);
            r.dials(0, 0, 0, 0, 0, 0);
            r.asks(0, REACH, 0, 43);
            r.asks(0, TONE, 0, 7);
            r.asks(1, TEND, 1, 3);
        });
    }

    private static void ofTheSameLamp() {
        sentence("ABOVE means: the BODY .. of the same LAMP: its SOOT", () -> {
            Run r = new Run().lamp(TWIN, 0).lamp(TWIN, 0).lamp(GAS, 0).lamp(GAS, 0);
            r.asks(0, BURN, 50, 5);
            r.tells(1, 3, 0);
            r.asks(1, BURN, 1, 2);
            r.call().ask(2, BURN, 100);
            r.asks(2, REACH, 0, 20);
            r.asks(3, REACH, 0, 30);
            r.asks(1, TEND, 2, 0);
            r.tells(0, 3, 100);
        });
        sentence("ABOVE means: the BODY .. of the same LAMP: its HEIGHT and its TANK", () -> {
            Run r = new Run().lamp(OUTER, 100).lamp(OUTER, 490).filled(1, 5);
            r.asks(0, REACH, 0, 20);
            r.asks(1, REACH, 0, 39);
            r.asks(0, RANK, 0, 1);
            r.asks(1, RANK, 0, 6);
            r.asks(0, HORN, 1, 30);
            r.asks(1, HORN, 1, 54);
        });
        sentence("OUTER: ABOVE and the RANK of the LAMP: as it is at that time", () -> {
            Run r = one(OUTER, 8);
            r.asks(0, TONE, 0, 17);
            r.call().ask(0, BURN, 6);
            r.asks(0, TONE, 0, 20);
            r.filled(0, 2);
            r.asks(0, TONE, 0, 22);
            r.asks(0, HORN, 2, 59);
            r.call().ask(0, TEND, 3);
            r.asks(0, TONE, 0, 19);
        });
        sentence("with n (its h, m, t, n): each MEMBER takes it as its own", () -> {
            Run r = one(DRUM, 120, 3, 0, 11, 4, 0, 6);
            r.asks(0, BURN, 5, 32);
            r.asks(0, REACH, 5, 55);
            r.asks(0, FLASH, 5, 100);
            r.asks(0, TEND, 5, 0);
            r.asks(0, RANK, 5, 8);
            r.asks(0, HORN, 5, 143);
            r.asks(0, TONE, 5, 13);
        });
    }

    private static void runsOfNights() {
        sentence("lamps are filled, lit, burn through nights, go out, are tended; horns are blown", () -> {
            Run r = one(TWIN, 120, 1);
            due("light(0, true)", r.call().light(0, true), LACK);
            r.lit(0, 60);
            due("night(14)", r.call().night(14), 0);
            r.tells(0, 2, 30);
            due("night(14)", r.call().night(14), 1);
            r.tells(0, 2, 0);
            r.tells(0, 3, 56);
            due("seen(0)", r.call().seen(0), LACK);
            due("night(14)", r.call().night(14), 0);
            r.tells(0, 3, 56);
            r.asks(0, TEND, 20, 26);
            r.lit(0, 8);
            due("seen(0)", r.call().seen(0), 0);
            due("night(1)", r.call().night(1), 0);
            r.tells(0, 2, 4);
            due("blow(0, 2)", r.call().blow(0, 2), 1);
            due("blown()", r.call().blown(), 75);
            due("nights", r.call().count(1), 4);
            due("acts", r.call().count(3), 6);
            due("store()", r.call().store(), 0);
        });
        sentence("OIL: and SOOT / 50: it grows from night to night", () -> {
            Run r = one(OIL, 0).lit(0, 100);
            int tank = 100;
            int soot = 0;
            for (int night = 1; night <= 20; night++) {
                due("night(13)", r.call().night(13), 0);
                soot += 13;
                tank -= 1 + soot / 50;
                r.tells(0, 2, tank);
                r.tells(0, 3, soot);
            }
            r.tells(0, 2, 35);
        });
        sentence("GAS: ABOVE of m less SOOT / 10: nights dim it, and another one is seen", () -> {
            Run r = new Run().lamp(GAS, 120).lamp(OIL, 110).lit(0, 99).lit(1, 99);
            due("seen(0)", r.call().seen(0), 0);
            r.call().night(14);
            due("seen(0), alike", r.call().seen(0), 0);
            r.call().night(6);
            due("seen(0), dimmed", r.call().seen(0), 1);
            r.call().ask(0, TEND, 20);
            due("seen(0), tended", r.call().seen(0), 0);
        });
        sentence("A LAMP is LIT, or put out: one that went out is filled and LIT again", () -> {
            Run r = one(GAS, 0).lit(0, 1);
            for (int i = 0; i < 3; i++) {
                due("night(5)", r.call().night(5), 1);
                due("light(0, true)", r.call().light(0, true), LACK);
                r.filled(0, 1);
                r.tells(0, 4, 0);
                due("light(0, true)", r.call().light(0, true), 1);
            }
            r.tells(0, 3, 15);
        });
        sentence("The answer of the latest blow() that answered 1: it stays through all else", () -> {
            Run r = new Run().lamp(SWING, 0).lamp(GAS, 0).lit(1, 99);
            r.call().blow(0, 30);
            r.call().ask(0, HORN, 1);
            r.call().ask(0, TONE, 1);
            r.call().night(3);
            r.call().seen(3);
            r.call().blow(1, 3);
            r.call().dial(5, 3);
            due("blown()", r.call().blown(), 37);
            r.call().blow(0, 30);
            due("blown()", r.call().blown(), 40);
        });
    }

    /** 510 calls of one sort behind the lamp, then what was counted. */
    private static void often(int what, long want, IntUnaryOperator action, Run r) {
        for (int i = 0; i < 510; i++) {
            action.applyAsInt(i);
        }
        due("count(" + what + ")", r.call().count(what), want);
    }

    private static void atMost512Calls() {
        sentence("An object is used for at most 512 calls: 510 acts, then how many", () -> {
            Run asked = one(SWING, 7);
            often(3, 510, i -> (int) asked.call().ask(0, BURN, i), asked);
            Run blown = one(SWING, 7);
            often(3, 510, i -> blown.call().blow(0, i), blown);
            Run cast = one(GAS, 7);
            often(3, 510, i -> cast.call().blow(0, i), cast);
        });
        sentence("An object is used for at most 512 calls: 510 nights, then how many", () -> {
            Run r = one(GAS, 7);
            often(1, 510, i -> r.call().night(1 + i % 14), r);
            Run bad = one(GAS, 7);
            often(1, 0, i -> bad.call().night(15 + i), bad);
        });
        sentence("An object is used for at most 512 calls: sixty LAMPS that burn in all that are left", () -> {
            Run r = new Run();
            r.call().haul(100000);
            for (int lamp = 0; lamp < 60; lamp++) {
                r.lamp(SWING, lamp);
                r.call().fill(lamp, 1600);
                r.call().light(lamp, true);
            }
            for (int night = 0; night < 163; night++) {
                due("night(1)", r.call().night(1), 0);
                due("seen(0)", r.call().seen(0), 50);
            }
            r.tells(59, 3, 326);
            r.tells(59, 2, 362);
            due("nights", r.call().count(1), 163);
            due("acts", r.call().count(3), 326);
            due("entries", r.call().count(2), 360);
        });
    }

    private static final int[] EDGES = {MIN, MIN + 1, -1000001, -100001, -501, -61, -10, -9, -8, -7, -2, -1, 0, 1, 2,
        3, 4, 5, 6, 7, 8, 9, 10, 13, 14, 15, 59, 60, 61, 500, 501, 999, 1000, 1001, 99999, 100000, 100001, 1000000,
        1000001, 1 << 30, MAX - 1, MAX};

    /** A state to try the edges in: no lamp, nine of them, or sixty that are LIT. */
    private static Run state(int which) {
        if (which == 1) {
            return harbour();
        }
        Run r = new Run();
        for (int lamp = 0; lamp < 60 && which == 2; lamp++) {
            r.lamp(1 + lamp % 9, lamp).lit(lamp, 100000);
        }
        return r;
    }

    private static boolean within(int value, int least, int most) {
        return value >= least && value <= most;
    }

    /** The call answers BAD just where the document says so, and never fails. */
    private static void badJustIf(boolean bad, String call, long badAnswer, Run r, ToLongFunction<CoastLamps> action) {
        try {
            long answer = action.applyAsLong(r.call());
            if (bad != (answer == badAnswer)) {
                fault(call + " answered " + answer + (bad ? ", due is BAD" : ", which is not due"));
            }
        } catch (RuntimeException | StackOverflowError thrown) {
            fault(call + " threw " + thrown);
        }
    }

    private static void edgesOfOne(int which, int a) {
        int lamps = new int[] {0, 9, 60}[which];
        Run r = state(which);
        String of = "(" + a + ") in state " + which;
        badJustIf(!within(a, 1, 14), "night" + of, BAD, r, x -> x.night(a));
        badJustIf(!within(a, 0, 9), "seen" + of, BAD, r, x -> x.seen(a));
        badJustIf(!within(a, 1, 100000), "haul" + of, LEAST, r, x -> x.haul(a));
        badJustIf(!within(a, 0, 3), "count" + of, BAD, r, x -> x.count(a));
        badJustIf(!within(a, 0, lamps - 1), "light true" + of, BAD, r, x -> x.light(a, true));
        badJustIf(!within(a, 0, lamps - 1), "light false" + of, BAD, r, x -> x.light(a, false));
        int entries = r.call().count(2);
        badJustIf(!within(a, 0, entries - 1), "trace" + of, BAD, r, x -> x.trace(a));
    }

    private static void edgesOfTwo(int which, int a) {
        int lamps = new int[] {0, 9, 60}[which];
        Run r = state(which);
        for (int b : EDGES) {
            String of = "(" + a + ", " + b + ") in state " + which;
            badJustIf(!within(a, 0, 7) || !within(b, 0, 1000), "dial" + of, BAD, r, x -> x.dial(a, b));
            badJustIf(!within(a, 0, lamps - 1) || !within(b, 1, 100000), "fill" + of, BAD, r, x -> x.fill(a, b));
            badJustIf(!within(a, 0, lamps - 1), "blow" + of, BAD, r, x -> x.blow(a, b));
            badJustIf(!within(a, 0, lamps - 1) || !within(b, 0, 5), "told" + of, LEAST, r, x -> x.told(a, b));
            badJustIf(!within(a, 1, 9) || !within(b, 0, 500), "lamp" + of, BAD, state(which), x -> x.lamp(a, b));
        }
    }

    private static void edgesOfAsk(int which, int lamp) {
        int lamps = new int[] {0, 9, 60}[which];
        for (int member : EDGES) {
            Run r = state(which);
            for (int n : EDGES) {
                String call = "ask(" + lamp + ", " + member + ", " + n + ") in state " + which;
                boolean bad = !within(lamp, 0, lamps - 1) || !within(member, 0, 6);
                badJustIf(bad, call, LEAST, r, x -> x.ask(lamp, member, n));
            }
        }
    }

    private static void anyArguments() {
        for (int which = 0; which <= 2; which++) {
            int state = which;
            sentence("BAD: what is outside, and nothing else; every call answers: of one int, state " + which, () -> {
                for (int a : EDGES) {
                    edgesOfOne(state, a);
                }
            });
            sentence("BAD: what is outside, and nothing else; every call answers: of two, state " + which, () -> {
                for (int a : EDGES) {
                    edgesOfTwo(state, a);
                }
            });
            sentence("The least long: BAD (LAMP, MEMBER), whatever n is: state " + which, () -> {
                for (int a : EDGES) {
                    edgesOfAsk(state, a);
                }
            });
        }
        sentence("FULL: 60 there are; FULL: the TANK would be above 1000000; CAST: no such answer means another", () -> {
            Run r = state(2);
            due("lamp(1, 1)", r.call().lamp(1, 1), FULL);
            due("ask(0, 5, 1)", r.call().ask(0, HORN, 1), CAST_LONG);
            for (int i = 2; i <= 10; i++) {
                r.filled(59, 100000);
            }
            r.tells(59, 2, 1000000);
            due("fill(59, 1)", r.call().fill(59, 1), LACK);
            r.call().haul(1);
            due("fill(59, 1)", r.call().fill(59, 1), FULL);
        });
    }

    public static void main(String[] args) {
        whatACallChanges();
        whatAnAskChanges();
        dialsInBodies();
        ofTheSameLamp();
        runsOfNights();
        atMost512Calls();
        anyArguments();
        System.out.println(wrong == 0 ? "all answers are as due, of " + sentences + " sentences"
            : wrong + " answers are not as due");
        if (wrong != 0) {
            System.exit(1);
        }
    }
}
