import java.util.Arrays;

/** Each promise of DOC.md by calls whose answers were reckoned by hand. */
public final class PromiseTests {
    private static final long LEAST = Long.MIN_VALUE;
    private static final long CAST_LONG = Long.MIN_VALUE + 1;
    private static final int MAX = Integer.MAX_VALUE, MIN = Integer.MIN_VALUE;

    private static int wrong = 0;
    private static int promise = 0;

    private static void due(String call, long got, long want) {
        if (got != want) {
            wrong++;
            System.out.println("promise " + promise + ": " + call + " answered " + got + ", due is " + want);
        }
    }

    private static void traceIs(CoastLamps x, String behind, int... want) {
        int[] got = new int[Math.max(x.count(2), 0)];
        for (int i = 0; i < got.length; i++) {
            got[i] = x.trace(i);
        }
        if (!Arrays.equals(got, want)) {
            wrong++;
            System.out.println("promise " + promise + ": the trace behind " + behind + " is "
                + Arrays.toString(got) + ", due is " + Arrays.toString(want));
        }
        due("trace(-1) behind " + behind, x.trace(-1), -1);
        due("trace(its length) behind " + behind, x.trace(want.length), -1);
    }

    /** An ask, its answer and its trace. */
    private static void asks(CoastLamps x, int lamp, int member, int n, long want, int... trace) {
        String call = "ask(" + lamp + ", " + member + ", " + n + ")";
        due(call, x.ask(lamp, member, n), want);
        traceIs(x, call, trace);
    }

    private static CoastLamps dialed(int... values) {
        CoastLamps x = new CoastLamps();
        for (int k = 0; k < values.length; k++) {
            x.dial(k, values[k]);
        }
        return x;
    }

    /** A coast with one lamp of each kind: kind k is number k - 1 and 37 k high. */
    private static CoastLamps coast(int... values) {
        CoastLamps x = dialed(values);
        for (int kind = 1; kind <= 9; kind++) {
            x.lamp(kind, 37 * kind);
        }
        return x;
    }

    private static CoastLamps single(int kind, int height, int... values) {
        CoastLamps x = dialed(values);
        x.lamp(kind, height);
        return x;
    }

    private static void fillAndLight(CoastLamps x, int lamp, int n) {
        x.haul(n);
        x.fill(lamp, n);
        x.light(lamp, true);
    }

    private static void newObject() {
        CoastLamps x = new CoastLamps();
        for (int what = 0; what <= 3; what++) {
            due("count(" + what + ")", x.count(what), 0);
        }
        due("store()", x.store(), 0);
        due("blown()", x.blown(), 0);
        due("trace(0)", x.trace(0), -1);
        due("told(0, 0)", x.told(0, 0), LEAST);
        for (int k = 0; k < 8; k++) {
            due("dial(" + k + ", 0)", x.dial(k, 0), 0);
        }
        CoastLamps other = new CoastLamps();
        x.lamp(1, 1);
        x.haul(5);
        x.dial(0, 5);
        due("count(0) of another object", other.count(0), 0);
        due("store() of another object", other.store(), 0);
        due("dial(0, 1) of another object", other.dial(0, 1), 0);
    }

    private static void dial() {
        CoastLamps x = new CoastLamps();
        for (int k = 0; k < 8; k++) {
            due("dial(k, 1000)", x.dial(k, 1000), 0);
            due("dial(k, k)", x.dial(k, k), 1000);
        }
        due("dial(-1, 1)", x.dial(-1, 1), -1);
        due("dial(8, 1)", x.dial(8, 1), -1);
        due("dial(MIN, 1)", x.dial(MIN, 1), -1);
        due("dial(MAX, 1)", x.dial(MAX, 1), -1);
        due("dial(3, -1)", x.dial(3, -1), -1);
        due("dial(3, 1001)", x.dial(3, 1001), -1);
        due("dial(3, MAX)", x.dial(3, MAX), -1);
        for (int k = 0; k < 8; k++) {
            due("dial(k, 0)", x.dial(k, 0), k);
        }
    }

    private static void lamp() {
        CoastLamps x = new CoastLamps();
        due("lamp(0, 1)", x.lamp(0, 1), -1);
        due("lamp(10, 1)", x.lamp(10, 1), -1);
        due("lamp(-1, 1)", x.lamp(-1, 1), -1);
        due("lamp(MAX, 1)", x.lamp(MAX, 1), -1);
        due("lamp(1, -1)", x.lamp(1, -1), -1);
        due("lamp(1, 501)", x.lamp(1, 501), -1);
        due("lamp(1, MIN)", x.lamp(1, MIN), -1);
        for (int i = 0; i < 60; i++) {
            due("lamp number " + i, x.lamp(i % 9 + 1, i % 2 == 0 ? 0 : 500), i);
        }
        due("lamp 61", x.lamp(1, 1), -2);
        due("lamp 61 of no kind", x.lamp(0, 1), -1);
        due("lamp 61 too high", x.lamp(1, 501), -1);
        due("count(0)", x.count(0), 60);
        for (int i = 0; i < 60; i++) {
            due("told(" + i + ", 0)", x.told(i, 0), i % 9 + 1);
            due("told(" + i + ", 1)", x.told(i, 1), i % 2 == 0 ? 0 : 500);
            due("told(" + i + ", 2)", x.told(i, 2), 0);
            due("told(" + i + ", 3)", x.told(i, 3), 0);
            due("told(" + i + ", 4)", x.told(i, 4), 0);
        }
    }

    private static void askBurn() {
        CoastLamps x = coast(3, 2, 11, 4, 0, 6);
        asks(x, 0, 0, 9, 28, 10, 0);
        asks(x, 1, 0, 9, 28, 10, 0);
        asks(x, 2, 0, 9, 56, 30, 10, 0, 10, 0);
        asks(x, 3, 0, 9, 56, 30, 10, 0, 10, 0);
        asks(x, 4, 0, 9, 60, 50, 30, 10, 0, 10, 0);
        asks(x, 5, 0, 9, 28, 0);
        asks(x, 6, 0, 9, 13, 70, 0);
        asks(x, 7, 0, 9, 13, 70, 0);
        asks(x, 8, 0, 9, 11, 90, 70, 0);
        int[] soot = {9, 9, 18, 18, 18, 9, 4, 4, 4};
        for (int i = 0; i < 9; i++) {
            due("told(" + i + ", 3)", x.told(i, 3), soot[i]);
        }
        due("OIL: soot / 50 as it is behind ABOVE", single(1, 0, 3).ask(0, 0, 60), 182);
        due("TWIN: soot / 50, 0 and then 1", single(3, 0, 3).ask(0, 0, 30), 183);
        due("OIL: -99 / 50 is cut", single(1, 0, 0).ask(0, 0, -99), 0);
        due("SWING: -3 / 2 is cut", single(5, 0, 0).ask(0, 0, -3), 1);
        due("FLARE: -3 / 2 is cut", single(7, 0, 10).ask(0, 0, -3), -9);
        due("OUTER: 41 less 41", single(9, 0, 10, 41).ask(0, 0, 8), 0);
        due("OUTER: 41 less 42", single(9, 0, 10, 42).ask(0, 0, 8), 0);
        due("OUTER: 41 less 40", single(9, 0, 10, 40).ask(0, 0, 8), 1);
        CoastLamps dimmed = single(9, 0, 10, 1000);
        dimmed.ask(0, 0, 8);
        due("OUTER: soot is of h, not of h less D1", dimmed.told(0, 3), 4);
        CoastLamps wrap = single(1, 0, 3);
        due("OIL wraps", wrap.ask(0, 0, MAX), -2104533978L);
        wrap.ask(0, 0, 1);
        due("soot wraps", wrap.told(0, 3), MIN);
    }

    private static void askReach() {
        CoastLamps x = coast(3, 2, 11, 4, 0, 6);
        asks(x, 0, 1, 3, 24, 1);
        asks(x, 1, 1, 3, 39, 21, 1);
        asks(x, 2, 1, 3, 63, 31, 21, 1, 21, 1);
        asks(x, 3, 1, 3, 67, 41, 31, 21, 1, 21, 1);
        asks(x, 4, 1, 3, 73, 41, 31, 21, 1, 21, 1);
        asks(x, 5, 1, 3, 43, 61, 1);
        asks(x, 6, 1, 3, 46, 61, 1);
        asks(x, 7, 1, 3, 25, 81, 61, 1);
        asks(x, 8, 1, 3, 27, 81, 61, 1);
        due("TWIN at 9", single(3, 0).ask(0, 1, 9), 3);
        due("TWIN at 20: -33 / 2 is cut", single(3, 0).ask(0, 1, 20), -46);
        due("DRUM at 9", single(4, 0).ask(0, 1, 9), 20);
        due("DRUM of 21", single(4, 9, 0, 0, 0).ask(0, 1, 5), 21);
        due("BUOY: -3 / 2 is cut", single(8, 0).ask(0, 1, 11), -1);
        CoastLamps gas = single(6, 222);
        gas.ask(0, 0, 109);
        due("GAS less soot / 10", gas.ask(0, 1, 0), 42);
        CoastLamps buoy = single(8, 222);
        buoy.ask(0, 0, 50);
        due("BUOY: half of what GAS answers", buoy.ask(0, 1, 0), 25);
        CoastLamps odd = single(6, 0);
        odd.ask(0, 0, -19);
        due("GAS less -19 / 10", odd.ask(0, 1, 0), 31);
        due("REACH wraps", single(1, 0).ask(0, 1, MIN), 30 + (long) MIN);
    }

    private static void askFlash() {
        CoastLamps x = coast();
        asks(x, 0, 2, 8, 100, 2);
        asks(x, 1, 2, 8, 100, 2);
        asks(x, 2, 2, 8, 0, 32);
        asks(x, 2, 2, 6, 100, 32, 2);
        asks(x, 2, 2, -4, 0, 32);
        asks(x, 2, 2, -3, 100, 32, 2);
        asks(x, 3, 2, 0, 0, 32);
        asks(x, 4, 2, 11, 100, 52, 32, 2);
        asks(x, 4, 2, 12, 0, 52, 32);
        asks(x, 4, 2, 14, 0, 52, 32);
        asks(x, 4, 2, 15, 100, 52, 32, 2);
        asks(x, 4, 2, -2, 0, 52, 32);
        asks(x, 5, 2, 5, 100, 2);
        asks(x, 6, 2, 4, 100, 72, 2);
        asks(x, 6, 2, 5, 0, 72);
        asks(x, 6, 2, -5, 0, 72);
        asks(x, 7, 2, -6, 100, 72, 2);
        asks(x, 8, 2, 4, 100, 92, 72, 2, 72);
        asks(x, 8, 2, 5, 100, 92, 72, 72, 2);
        asks(x, 8, 2, MAX, 100, 92, 72, 72, 2);
    }

    private static void askTend() {
        CoastLamps x = coast(0, 0, 0, 4, 0, 0);
        for (int i = 0; i < 9; i++) {
            x.ask(i, 0, i == 2 || i == 3 || i == 4 ? 50 : i >= 6 ? 200 : 100);
            due("soot of " + i, x.told(i, 3), 100);
        }
        asks(x, 0, 3, 30, 70, 3);
        asks(x, 1, 3, 31, 54, 23, 3, 3);
        asks(x, 2, 3, 30, 55, 23, 3, 3);
        asks(x, 3, 3, 30, 49, 43, 23, 3, 3);
        asks(x, 4, 3, 30, 49, 43, 23, 3, 3);
        asks(x, 5, 3, 30, 70, 3);
        asks(x, 6, 3, 30, 70, 3);
        asks(x, 7, 3, 30, 70, 83, 3);
        asks(x, 8, 3, 30, 70, 83, 3);
        x.dial(4, 7);
        asks(x, 7, 3, 30, 7, 83);
        asks(x, 8, 3, 30, 7, 83);
        due("soot that was not tended", x.told(8, 3), 70);
        asks(x, 0, 3, 70, 0, 3);
        asks(x, 0, 3, 1, 0, 3);
        asks(x, 0, 3, -5, 5, 3);
        asks(x, 0, 3, MIN, 0, 3);
        asks(x, 0, 3, -MAX, MAX, 3);
        asks(x, 0, 3, -1, 0, 3);
        CoastLamps below = single(1, 0);
        below.ask(0, 0, -8);
        due("soot below 0 is tended by 0", below.ask(0, 3, 0), 0);
        CoastLamps steps = single(2, 0);
        steps.ask(0, 0, 10);
        due("ROUND of -7: 17, then -3 is cut", steps.ask(0, 3, -7), 20);
    }

    private static void askRank() {
        CoastLamps x = coast();
        asks(x, 0, 4, MAX, 2, 14, 4);
        asks(x, 1, 4, 0, 3, 14, 4);
        asks(x, 2, 4, -1, 4, 14, 4);
        asks(x, 3, 4, 0, 10, 44, 14, 4);
        asks(x, 4, 4, 0, 12, 44, 14, 4);
        asks(x, 5, 4, 0, 6, 4);
        asks(x, 6, 4, 0, 7, 74, 4);
        asks(x, 7, 4, 0, 8, 74, 4);
        asks(x, 8, 4, 0, 0, 94, 74, 4);
        x.haul(5);
        x.fill(8, 5);
        x.ask(8, 0, 26);
        asks(x, 8, 4, 0, 5, 94, 74, 4);
        x.ask(6, 0, -6);
        due("FLARE with soot -3", x.ask(6, 4, 0), 4);
    }

    private static void askHornAndTone() {
        CoastLamps x = coast(3, 2, 11, 4, 0, 6);
        for (int i : new int[] {0, 1, 5}) {
            asks(x, i, 5, 1, CAST_LONG);
            asks(x, i, 6, 1, CAST_LONG);
        }
        asks(x, 2, 6, 99, 7, 16);
        asks(x, 3, 6, 99, 13, 46, 16);
        asks(x, 4, 6, 99, 13, 46, 16);
        asks(x, 6, 6, 99, 9, 76);
        asks(x, 7, 6, 99, 9, 76);
        asks(x, 8, 6, 99, 9, 96, 76, 94, 74, 4);
        asks(x, 2, 5, -3, 55, 5, 16, 31, 21, 1, 21, 1);
        asks(x, 3, 5, 2, 107, 5, 46, 16, 41, 31, 21, 1, 21, 1);
        asks(x, 4, 5, 10, 23, 55, 46, 16);
        asks(x, 6, 5, 2, 73, 5, 76, 61, 1);
        asks(x, 7, 5, 2, 47, 5, 76, 81, 61, 1);
        asks(x, 8, 5, 2, 49, 5, 96, 76, 94, 74, 4, 81, 61, 1);
        due("HORN wraps", single(3, 0).ask(0, 5, MAX), -2147483612L);
        due("SWING's HORN wraps", single(5, 0).ask(0, 5, MAX), (long) MIN + 6);
        CoastLamps ranked = single(9, 400);
        ranked.ask(0, 0, 8);
        due("OUTER's TONE with RANK 8", ranked.ask(0, 6, 0), 17);
        ranked.haul(2);
        ranked.fill(0, 2);
        due("OUTER's TONE with RANK 10", ranked.ask(0, 6, 0), 19);
    }

    private static void askWrongly() {
        CoastLamps x = coast();
        due("ask(0, 0, 5)", x.ask(0, 0, 5), 1);
        for (int lamp : new int[] {-1, 9, 60, MIN, MAX}) {
            due("ask(" + lamp + ", 0, 1)", x.ask(lamp, 0, 1), LEAST);
            due("ask(" + lamp + ", 5, 1)", x.ask(lamp, 5, 1), LEAST);
        }
        for (int member : new int[] {-1, 7, MIN, MAX}) {
            due("ask(0, " + member + ", 1)", x.ask(0, member, 1), LEAST);
            due("ask(2, " + member + ", 1)", x.ask(2, member, 1), LEAST);
        }
        due("acts", x.count(3), 1);
        traceIs(x, "bad asks", 10, 0);
    }

    private static void ask() {
        askBurn();
        askReach();
        askFlash();
        askTend();
        askRank();
        askHornAndTone();
        askWrongly();
    }

    private static void trace() {
        CoastLamps x = coast();
        traceIs(x, "no act");
        due("trace(MIN)", x.trace(MIN), -1);
        due("trace(MAX)", x.trace(MAX), -1);
        x.ask(4, 0, 1);
        traceIs(x, "SWING's BURN", 50, 30, 10, 0, 10, 0);
        x.ask(0, 2, 1);
        traceIs(x, "a shorter one", 2);
        due("trace(1), left from before", x.trace(1), -1);
        x.blow(6, 1);
        traceIs(x, "blow", 5, 76, 61, 1);
        x.blow(9, 1);
        x.ask(9, 1, 1);
        x.seen(10);
        x.night(15);
        x.seen(1);
        x.night(1);
        x.dial(0, 1);
        traceIs(x, "acts that were none", 5, 76, 61, 1);
        x.blow(5, 1);
        traceIs(x, "blow that ended with CAST");
        x.ask(6, 1, 1);
        x.ask(5, 6, 1);
        traceIs(x, "ask that ended with CAST");
        fillAndLight(x, 8, 500);
        fillAndLight(x, 5, 500);
        fillAndLight(x, 2, 500);
        x.light(5, false);
        x.seen(1);
        traceIs(x, "seen", 31, 21, 1, 21, 1, 81, 61, 1);
        x.night(1);
        traceIs(x, "night", 30, 10, 0, 10, 0, 90, 70, 0);
        due("trace(MAX)", x.trace(MAX), -1);
        CoastLamps crowd = new CoastLamps();
        for (int i = 0; i < 60; i++) {
            crowd.lamp(5, i);
            fillAndLight(crowd, i, 1000);
        }
        crowd.night(14);
        due("entries of sixty SWINGs", crowd.count(2), 360);
        due("the last of them", crowd.trace(359), 0);
        due("the last BURN of SWING", crowd.trace(354), 50);
        crowd.seen(0);
        due("entries of sixty SWINGs seen", crowd.count(2), 360);
        due("the last REACH of DRUM", crowd.trace(354), 41);
    }

    private static void haul() {
        CoastLamps x = new CoastLamps();
        due("haul(1)", x.haul(1), 1);
        due("haul(100000)", x.haul(100000), 100001);
        for (int n : new int[] {0, -1, 100001, MIN, MAX}) {
            due("haul(" + n + ")", x.haul(n), LEAST);
        }
        due("store()", x.store(), 100001);
    }

    private static void fill() {
        CoastLamps x = single(1, 5);
        due("fill(0, 1) of nothing", x.fill(0, 1), -3);
        x.haul(10);
        due("fill(0, 11)", x.fill(0, 11), -3);
        for (int n : new int[] {0, -1, 100001, MIN, MAX}) {
            due("fill(0, " + n + ")", x.fill(0, n), -1);
        }
        for (int lamp : new int[] {-1, 1, 60, MIN, MAX}) {
            due("fill(" + lamp + ", 1)", x.fill(lamp, 1), -1);
        }
        due("store()", x.store(), 10);
        due("fill(0, 4)", x.fill(0, 4), 4);
        due("fill(0, 6)", x.fill(0, 6), 10);
        due("store()", x.store(), 0);
        for (int i = 1; i <= 9; i++) {
            x.haul(100000);
            due("fill(0, 100000)", x.fill(0, 100000), 10 + 100000 * i);
        }
        x.haul(99991);
        due("fill(0, 99991): above", x.fill(0, 99991), -2);
        due("fill(0, 99992): above, and not there", x.fill(0, 99992), -3);
        due("told(0, 2)", x.told(0, 2), 900010);
        due("fill(0, 99990): just full", x.fill(0, 99990), 1000000);
        due("store()", x.store(), 1);
        due("fill(0, 1)", x.fill(0, 1), -2);
        due("store()", x.store(), 1);
    }

    private static void light() {
        CoastLamps x = single(1, 5);
        due("light(0, true) of an empty one", x.light(0, true), -3);
        due("told(0, 4)", x.told(0, 4), 0);
        due("light(0, false) of one that is out", x.light(0, false), 0);
        x.haul(1);
        x.fill(0, 1);
        due("light(0, true)", x.light(0, true), 1);
        due("told(0, 4)", x.told(0, 4), 1);
        due("light(0, true) again", x.light(0, true), 0);
        due("light(0, false)", x.light(0, false), 1);
        due("light(0, false) again", x.light(0, false), 0);
        due("told(0, 4)", x.told(0, 4), 0);
        for (int lamp : new int[] {-1, 1, MIN, MAX}) {
            due("light(" + lamp + ", true)", x.light(lamp, true), -1);
            due("light(" + lamp + ", false)", x.light(lamp, false), -1);
        }
        due("acts", x.count(3), 0);
    }

    private static void night() {
        CoastLamps x = coast(2);
        due("night(1) of none", x.night(1), 0);
        due("nights", x.count(1), 1);
        due("acts", x.count(3), 0);
        for (int h : new int[] {0, 15, -1, MIN, MAX}) {
            due("night(" + h + ")", x.night(h), -1);
        }
        due("nights", x.count(1), 1);
        fillAndLight(x, 0, 29);
        fillAndLight(x, 1, 30);
        fillAndLight(x, 2, 57);
        fillAndLight(x, 6, 15);
        x.haul(7);
        x.fill(5, 7);
        due("night(14)", x.night(14), 3);
        due("nights", x.count(1), 2);
        due("acts", x.count(3), 1);
        long[] tank = {0, 1, 0, 0, 0, 7, 0};
        long[] lit = {0, 1, 0, 0, 0, 0, 0};
        long[] soot = {14, 14, 28, 0, 0, 0, 7};
        for (int i = 0; i < 7; i++) {
            due("told(" + i + ", 2)", x.told(i, 2), tank[i]);
            due("told(" + i + ", 4)", x.told(i, 4), lit[i]);
            due("told(" + i + ", 3)", x.told(i, 3), soot[i]);
        }
        due("night(1)", x.night(1), 1);
        due("night(1) of none", x.night(1), 0);
        due("nights", x.count(1), 4);
        due("acts", x.count(3), 2);
        CoastLamps gain = single(1, 5);
        fillAndLight(gain, 0, 40);
        gain.ask(0, 0, -100000);
        due("night(9) with a BURN below 0", gain.night(9), 0);
        due("its TANK", gain.told(0, 2), 40);
        due("is it LIT", gain.told(0, 4), 1);
        due("its SOOT", gain.told(0, 3), -99991);
        CoastLamps spare = single(9, 5, 0, 1);
        fillAndLight(spare, 0, 1);
        due("night(9) with a BURN of 0", spare.night(9), 0);
        due("its TANK", spare.told(0, 2), 1);
    }

    private static void seen() {
        CoastLamps x = new CoastLamps();
        due("seen(0) of none", x.seen(0), -3);
        x.lamp(1, 500);
        x.lamp(1, 100);
        x.lamp(1, 109);
        x.lamp(1, 110);
        due("seen(0) of none LIT", x.seen(0), -3);
        for (int m : new int[] {-1, 10, MIN, MAX}) {
            due("seen(" + m + ") of none LIT", x.seen(m), -1);
        }
        due("acts", x.count(3), 0);
        for (int i = 1; i < 4; i++) {
            fillAndLight(x, i, 100);
        }
        due("seen(0)", x.seen(0), 3);
        x.light(3, false);
        due("seen(0) of two alike", x.seen(0), 1);
        due("seen(9)", x.seen(9), 1);
        due("seen(10)", x.seen(10), -1);
        due("seen(-1)", x.seen(-1), -1);
        due("acts", x.count(3), 3);
        traceIs(x, "seen", 1, 1);
        CoastLamps murky = new CoastLamps();
        murky.lamp(6, 0);
        murky.lamp(6, 0);
        murky.lamp(6, 0);
        for (int i = 0; i < 3; i++) {
            fillAndLight(murky, i, 100);
            murky.ask(i, 0, i == 1 ? 1000 : 2000);
        }
        due("seen(0), all below 0", murky.seen(0), 1);
        CoastLamps far = single(3, 0);
        far.lamp(4, 0);
        fillAndLight(far, 0, 9);
        fillAndLight(far, 1, 9);
        due("seen(0), alike", far.seen(0), 0);
        due("seen(9), DRUM reaches farther", far.seen(9), 1);
    }

    private static void blow() {
        CoastLamps x = coast(3, 2, 11, 4, 0, 6);
        for (int lamp : new int[] {-1, 9, MIN, MAX}) {
            due("blow(" + lamp + ", 1)", x.blow(lamp, 1), -1);
        }
        due("acts", x.count(3), 0);
        int[] want = {-4, -4, 1, 1, 1, -4, 1, 1, 1};
        int[] answer = {0, 0, 90, 107, 15, 15, 73, 47, 49};
        for (int i = 0; i < 9; i++) {
            due("blow(" + i + ", 2)", x.blow(i, 2), want[i]);
            due("acts", x.count(3), i + 1);
            due("blown() behind blow(" + i + ", 2)", x.blown(), answer[i]);
            due("entries of CAST", x.count(2) == 0 ? 1 : 0, want[i] == 1 ? 0 : 1);
        }
        x.blow(4, 1);
        traceIs(x, "blow(4, 1)", 55, 46, 16);
    }

    private static void blown() {
        CoastLamps x = coast();
        due("blown()", x.blown(), 0);
        x.ask(4, 5, 8);
        due("blown() behind ask()", x.blown(), 0);
        x.blow(0, 8);
        due("blown() behind CAST", x.blown(), 0);
        x.blow(4, 8);
        due("blown()", x.blown(), 15);
        due("blown() again", x.blown(), 15);
        x.blow(0, 9);
        due("blown() behind CAST", x.blown(), 15);
        x.blow(77, 9);
        due("blown() behind BAD", x.blown(), 15);
        x.blow(4, -20);
        due("blown() below 0", x.blown(), -13);
    }

    private static void told() {
        CoastLamps x = coast();
        int[] horned = {0, 0, 1, 1, 1, 0, 1, 1, 1};
        for (int i = 0; i < 9; i++) {
            due("told(" + i + ", 0)", x.told(i, 0), i + 1);
            due("told(" + i + ", 1)", x.told(i, 1), 37L * (i + 1));
            due("told(" + i + ", 5)", x.told(i, 5), horned[i]);
        }
        fillAndLight(x, 3, 12);
        x.ask(3, 0, -4);
        due("told(3, 2)", x.told(3, 2), 12);
        due("told(3, 3)", x.told(3, 3), -8);
        due("told(3, 4)", x.told(3, 4), 1);
        for (int bad : new int[] {-1, 9, MIN, MAX}) {
            due("told(" + bad + ", 0)", x.told(bad, 0), LEAST);
            due("told(0, " + bad + ")", x.told(0, bad), LEAST);
        }
        due("told(0, 6)", x.told(0, 6), LEAST);
        traceIs(x, "told", 30, 10, 0, 10, 0);
    }

    private static void count() {
        CoastLamps x = coast();
        due("count(0)", x.count(0), 9);
        x.night(3);
        x.seen(3);
        due("count(1)", x.count(1), 1);
        due("count(3): none was LIT", x.count(3), 0);
        x.ask(2, 0, 1);
        due("count(2)", x.count(2), 5);
        due("count(3)", x.count(3), 1);
        x.ask(0, 5, 1);
        due("count(2) of CAST", x.count(2), 0);
        due("count(3): CAST ends an act", x.count(3), 2);
        x.blow(0, 1);
        due("count(3): CAST of blow()", x.count(3), 3);
        x.blow(2, 1);
        due("count(3)", x.count(3), 4);
        x.blow(-2, 1);
        x.ask(2, 9, 1);
        due("count(3): BAD is no act", x.count(3), 4);
        fillAndLight(x, 0, 9);
        x.night(3);
        x.seen(3);
        due("count(3): one was LIT", x.count(3), 6);
        due("count(1)", x.count(1), 2);
        for (int what : new int[] {-1, 4, MIN, MAX}) {
            due("count(" + what + ")", x.count(what), -1);
        }
    }

    private static void store() {
        CoastLamps x = single(1, 1);
        for (int i = 1; i <= 200; i++) {
            x.haul(100000);
            due("store()", x.store(), 100000L * i);
        }
        x.fill(0, 77);
        due("store()", x.store(), 19999923L);
        x.fill(5, 77);
        due("store()", x.store(), 19999923L);
    }

    public static void main(String[] args) {
        for (promise = 1; promise <= 15; promise++) {
            switch (promise) {
                case 1: newObject(); break;
                case 2: dial(); break;
                case 3: lamp(); break;
                case 4: ask(); break;
                case 5: trace(); break;
                case 6: haul(); break;
                case 7: fill(); break;
                case 8: light(); break;
                case 9: night(); break;
                case 10: seen(); break;
                case 11: blow(); break;
                case 12: blown(); break;
                case 13: told(); break;
                case 14: count(); break;
                default: store(); break;
            }
        }
        System.out.println(wrong == 0 ? "all answers are as due" : wrong + " answers are not as due");
        if (wrong != 0) {
            System.exit(1);
        }
    }
}
