import java.lang.reflect.Field;
import java.lang.reflect.Method;
import java.util.Arrays;
import java.util.function.IntToLongFunction;
import java.util.function.LongSupplier;

/**
 * One test for each sentence of DOC.md that names a boundary case, under the sentence's own words:
 * the last values that are taken, the next ones outside, wraps, and what refused calls leave as it was.
 */
public final class BoundaryTests {
    private static final int BAD = -1, FULL = -2, LACK = -3, CAST = -4;
    private static final long LEAST = Long.MIN_VALUE, CAST_LONG = Long.MIN_VALUE + 1;
    private static final int MAX = Integer.MAX_VALUE, MIN = Integer.MIN_VALUE;

    private static final int OIL = 1, ROUND = 2, TWIN = 3, DRUM = 4, SWING = 5;
    private static final int GAS = 6, FLARE = 7, BUOY = 8, OUTER = 9;
    private static final int BURN = 0, REACH = 1, FLASH = 2, TEND = 3, RANK = 4, HORN = 5, TONE = 6;

    private static int wrong = 0;
    private static int sentences = 0;
    private static String sentence = "";

    private static void sentence(String words, Runnable test) {
        sentence = words;
        sentences++;
        test.run();
    }

    private static void due(String call, long got, long want) {
        if (got != want) {
            wrong++;
            System.out.println("\"" + sentence + "\": " + call + " answered " + got + ", due is " + want);
        }
    }

    /** A new object whose calls are counted: past the 512th nothing is promised, so no test may rest there. */
    private static final class Run {
        private final CoastLamps object = new CoastLamps();
        private int calls = 0;

        CoastLamps call() {
            calls++;
            if (calls > 512) {
                throw new IllegalStateException("the test under \"" + sentence + "\" makes more than 512 calls");
            }
            return object;
        }

        Run dials(int... values) {
            for (int k = 0; k < values.length; k++) {
                call().dial(k, values[k]);
            }
            return this;
        }

        Run lamps(int height, int... kinds) {
            for (int kind : kinds) {
                call().lamp(kind, height);
            }
            return this;
        }

        Run filled(int lamp, int n) {
            call().haul(n);
            call().fill(lamp, n);
            return this;
        }

        Run lit(int lamp, int n) {
            filled(lamp, n);
            call().light(lamp, true);
            return this;
        }

        Run asked(int lamp, int member, int n) {
            call().ask(lamp, member, n);
            return this;
        }

        void asks(int lamp, int member, int n, long want) {
            due("ask(" + lamp + ", " + member + ", " + n + ")", call().ask(lamp, member, n), want);
        }

        void tells(int lamp, int what, long want) {
            due("told(" + lamp + ", " + what + ")", call().told(lamp, what), want);
        }

        void counts(int what, long want) {
            due("count(" + what + ")", call().count(what), want);
        }

        void traces(int... want) {
            int[] got = entries();
            if (!Arrays.equals(got, want)) {
                wrong++;
                System.out.println("\"" + sentence + "\": the trace is " + Arrays.toString(got) + ", due is "
                    + Arrays.toString(want));
            }
            due("trace(-1)", call().trace(-1), BAD);
            due("trace(its length)", call().trace(want.length), BAD);
        }

        int[] entries() {
            int[] entries = new int[Math.max(call().count(2), 0)];
            for (int i = 0; i < entries.length; i++) {
                entries[i] = call().trace(i);
            }
            return entries;
        }

        /** All that the face tells but nights, acts and the trace; of a crowd of lamps the first and the last. */
        String things() {
            StringBuilder all = new StringBuilder();
            int lamps = call().count(0);
            all.append(lamps).append(" lamps, store ").append(call().store());
            all.append(", blown ").append(call().blown()).append(", dials");
            for (int k = 0; k < 8; k++) {
                int value = call().dial(k, 0);
                call().dial(k, value);
                all.append(' ').append(value);
            }
            for (int lamp = 0; lamp < lamps; lamp += lamps > 9 ? lamps - 1 : 1) {
                all.append(", lamp");
                for (int what = 0; what <= 5; what++) {
                    all.append(' ').append(call().told(lamp, what));
                }
            }
            return all.toString();
        }

        String nightsAndActs() {
            return call().count(1) + " nights, " + call().count(3) + " acts";
        }

        String everything() {
            return things() + "; " + nightsAndActs() + "; trace " + Arrays.toString(entries());
        }
    }

    private static Run run() {
        return new Run();
    }

    private static Run one(int kind, int height, int... dials) {
        return run().dials(dials).lamps(height, kind);
    }

    /** An OIL that is LIT, a TWIN and a GAS, with a night, a blown horn, a trace and a store behind them. */
    private static Run used() {
        Run r = run().dials(1, 2, 3, 4, 0, 6, 7, 8).lamps(111, OIL, TWIN, GAS);
        r.lit(0, 50).filled(1, 60);
        r.call().haul(500);
        r.call().night(3);
        r.call().blow(1, 5);
        return r;
    }

    private static void same(String what, String before, String behind) {
        if (!before.equals(behind)) {
            wrong++;
            System.out.println("\"" + sentence + "\": " + what + " did not leave all as it was:");
            System.out.println("  before: " + before);
            System.out.println("  behind: " + behind);
        }
    }

    /** A call that answers so and leaves all that the face tells as it was. */
    private static void refused(Run r, String call, long want, LongSupplier action) {
        String before = r.everything();
        due(call, action.getAsLong(), want);
        same(call, before, r.everything());
    }

    /** The same, of one call with each of these values. */
    private static void refusedEach(Run r, String call, long want, IntToLongFunction action, int... values) {
        String before = r.everything();
        for (int value : values) {
            due(call + " with " + value, action.applyAsLong(value), want);
        }
        same(call, before, r.everything());
    }

    /** A call that ends with CAST: an act with an empty trace that leaves all else as it was. */
    private static void cast(Run r, String call, long want, LongSupplier action) {
        String before = r.things();
        int nights = r.call().count(1);
        int acts = r.call().count(3);
        due(call, action.getAsLong(), want);
        same(call, before, r.things());
        r.counts(1, nights);
        r.counts(3, acts + 1);
        r.counts(2, 0);
        due("trace(0)", r.call().trace(0), BAD);
    }

    private static void kinds() {
        sentence("0 LAMP (of none, never made)", () -> {
            Run r = used();
            refused(r, "lamp(0, 7)", BAD, () -> r.call().lamp(0, 7));
        });
        sentence("a KIND without one has that of the nearest KIND above that has one", () -> {
            int[][] first = {
                {10, 1, 2, 3, 14}, {10, 21, 2, 23, 14}, {30, 31, 32, 23, 14, 5, 16},
                {30, 41, 32, 43, 44, 5, 46}, {50, 41, 52, 43, 44, 55, 46}, {0, 61, 2, 3, 4},
                {70, 61, 72, 3, 74, 5, 76}, {70, 81, 72, 83, 74, 5, 76}, {90, 81, 92, 83, 94, 5, 96}};
            for (int kind = OIL; kind <= OUTER; kind++) {
                Run r = one(kind, 100);
                for (int member = 0; member < first[kind - 1].length; member++) {
                    r.asked(0, member, 2);
                    due("the first entry of member " + member + " of kind " + kind, r.call().trace(0),
                        first[kind - 1][member]);
                }
            }
        });
        sentence("ABOVE means: the BODY that the KIND just above has (its own, or the nearest above it)", () -> {
            Run r = run().lamps(100, SWING, OUTER, DRUM);
            r.asked(0, BURN, 1).traces(50, 30, 10, 0, 10, 0);
            r.asked(0, FLASH, 3).traces(52, 32, 2);
            r.asked(1, BURN, 1).traces(90, 70, 0);
            r.asked(1, RANK, 1).traces(94, 74, 4);
            r.asked(1, TONE, 1).traces(96, 76, 94, 74, 4);
            r.asked(2, TONE, 1).traces(46, 16);
            r.asked(2, TEND, 1).traces(43, 23, 3, 3);
        });
    }

    private static void bounds() {
        sentence("DIALS D0 .. D7", () -> {
            Run r = used();
            due("dial(0, 9)", r.call().dial(0, 9), 1);
            due("dial(7, 9)", r.call().dial(7, 9), 8);
            refused(r, "dial(-1, 9)", BAD, () -> r.call().dial(-1, 9));
            refused(r, "dial(8, 9)", BAD, () -> r.call().dial(8, 9));
            refused(r, "dial(MIN, 9)", BAD, () -> r.call().dial(MIN, 9));
            refused(r, "dial(MAX, 9)", BAD, () -> r.call().dial(MAX, 9));
        });
        sentence("DIALS D0 .. D7 are 0 .. 1000", () -> {
            for (int k = 0; k < 8; k++) {
                int dial = k;
                Run r = run();
                due("dial(" + k + ", 1000)", r.call().dial(k, 1000), 0);
                refusedEach(r, "dial(dial, v)", BAD, v -> r.call().dial(dial, v), 1001, -1, MAX, MIN);
                due("dial(" + k + ", 0)", r.call().dial(k, 0), 1000);
                due("dial(" + k + ", 1)", r.call().dial(k, 1), 0);
            }
        });
        sentence("DIALS D0 .. D7 are .. (0 at first)", () -> {
            Run r = run();
            for (int k = 0; k < 8; k++) {
                due("dial(" + k + ", 5)", r.call().dial(k, 5), 0);
            }
        });
        sentence("A LAMP has a HEIGHT (0 .. 500)", () -> {
            Run r = used();
            due("lamp(9, 0)", r.call().lamp(OUTER, 0), 3);
            due("lamp(1, 500)", r.call().lamp(OIL, 500), 4);
            r.tells(3, 1, 0);
            r.tells(4, 1, 500);
            refusedEach(r, "lamp(OIL, height)", BAD, height -> r.call().lamp(OIL, height), -1, 501, MIN, MAX);
        });
        sentence("a TANK and SOOT (ints, 0 at first), is LIT or not (at first)", () -> {
            Run r = run();
            for (int kind = OIL; kind <= OUTER; kind++) {
                r.lamps(500, kind);
                for (int what = 2; what <= 4; what++) {
                    r.tells(kind - 1, what, 0);
                }
            }
        });
    }

    private static void wrapsOfBurnAndTend() {
        sentence("All is reckoned in ints, that wrap: SOOT becomes h more", () -> {
            Run r = one(GAS, 0).asked(0, BURN, MAX);
            r.tells(0, 3, MAX);
            r.asked(0, BURN, 1).tells(0, 3, MIN);
            r.asked(0, BURN, -1).tells(0, 3, MAX);
        });
        sentence("All is reckoned in ints, that wrap: h * D0 and 1", () -> {
            one(GAS, 0, 1).asks(0, BURN, MAX, MIN);
            one(GAS, 0, 1000).asks(0, BURN, MAX, -999);
            one(GAS, 0, 2).asks(0, BURN, MIN, 1);
        });
        sentence("All is reckoned in ints, that wrap: OIL: ABOVE of h, and SOOT / 50",
            () -> one(OIL, 0, 1).asks(0, BURN, MAX - 1, -2104533977));
        sentence("All is reckoned in ints, that wrap: TWIN: ABOVE of h, and ABOVE of h once more", () -> {
            Run r = one(TWIN, 0, 2);
            r.asks(0, BURN, 540000000, -2102567294);
            r.tells(0, 3, 1080000000);
        });
        sentence("All is reckoned in ints, that wrap: SWING: ABOVE of h, and h / 2",
            () -> one(SWING, 0, 2).asks(0, BURN, 500000000, -2014967294));
        sentence("All is reckoned in ints, that wrap: OUTER: ABOVE of h less D1", () -> {
            one(OUTER, 0, 2, 1).asks(0, BURN, MIN, 0);
            one(OUTER, 0, 2, 2).asks(0, BURN, MIN, MAX);
        });
        sentence("All is reckoned in ints, that wrap: SOOT becomes n less", () -> {
            one(OIL, 0).asked(0, BURN, 5).asks(0, TEND, -MAX, 0);
            one(OIL, 0).asks(0, TEND, -MAX, MAX);
            one(OIL, 0).asks(0, TEND, MIN, 0);
            Run r = one(OIL, 0).asked(0, BURN, -2);
            r.asks(0, TEND, MAX, MAX);
            r.tells(0, 3, MAX);
        });
        sentence("All is reckoned in ints, that wrap: DRUM: ABOVE of n + D3", () -> {
            one(DRUM, 0, 0, 0, 0, 1).asks(0, TEND, MAX, 1073741824);
            one(DRUM, 0, 0, 0, 0, 0).asks(0, TEND, MAX, 0);
        });
    }

    private static void wrapsOfTheOthers() {
        sentence("All is reckoned in ints, that wrap: HEIGHT / 10 and 30 less 3 m", () -> {
            one(OIL, 500).asks(0, REACH, MIN, -2147483568);
            one(OIL, 500).asks(0, REACH, MAX, -2147483565);
            one(OIL, 0).asks(0, REACH, -715827883, -2147483617);
            one(OIL, 0).asks(0, REACH, -715827872, 2147483646);
        });
        sentence("All is reckoned in ints, that wrap: ROUND: ABOVE of m, and D2",
            () -> one(ROUND, 0, 0, 0, 1000).asks(0, REACH, -715827872, -2147482650));
        sentence("All is reckoned in ints, that wrap: TWIN: half of ABOVE of m + 1",
            () -> one(TWIN, 0).asks(0, REACH, MAX, 1073741872));
        sentence("All is reckoned in ints, that wrap: GAS: ABOVE of m less SOOT / 10",
            () -> one(GAS, 0).asked(0, BURN, -20).asks(0, REACH, -715827872, MIN));
        sentence("All is reckoned in ints, that wrap: OUTER: ABOVE of t, and ABOVE of t + 1", () -> {
            Run r = one(OUTER, 0);
            r.asks(0, FLASH, MAX, 100);
            r.traces(92, 72, 72, 2);
        });
        sentence("All is reckoned in ints, that wrap: TONE times n, and REACH of 0", () -> {
            one(TWIN, 0).asks(0, HORN, MAX, -2147483612);
            one(TWIN, 0).asks(0, HORN, MIN, -2147483605);
            one(FLARE, 0).asks(0, HORN, 1 << 29, 536870942);
        });
        sentence("All is reckoned in ints, that wrap: SWING: TONE and n", () -> {
            one(SWING, 0).asks(0, HORN, MAX, -2147483642);
            one(SWING, 0).asks(0, HORN, MAX - 7, MAX);
        });
    }

    private static void cuts() {
        sentence("divisions cut: SOOT / 50", () -> {
            int[][] pairs = {{49, 1}, {50, 2}, {99, 2}, {100, 3}, {-49, 1}, {-50, 0}, {-99, 0}, {-100, -1}};
            for (int[] pair : pairs) {
                one(OIL, 0).asks(0, BURN, pair[0], pair[1]);
            }
        });
        sentence("divisions cut: SWING: h / 2", () -> {
            int[][] pairs = {{0, 2}, {1, 2}, {2, 3}, {3, 3}, {-1, 2}, {-2, 1}, {-3, 1}};
            for (int[] pair : pairs) {
                one(SWING, 0).asks(0, BURN, pair[0], pair[1]);
            }
        });
        sentence("divisions cut: FLARE: ABOVE of h / 2", () -> {
            int[][] pairs = {{1, 0}, {2, 1}, {3, 1}, {-1, 0}, {-2, -1}, {-3, -1}, {MAX, 1073741823}};
            for (int[] pair : pairs) {
                Run r = one(FLARE, 0, 10);
                r.asks(0, BURN, pair[0], pair[1] * 10 + 1);
                r.tells(0, 3, pair[1]);
            }
        });
        sentence("divisions cut: HEIGHT / 10", () -> {
            int[][] pairs = {{0, 30}, {9, 30}, {10, 31}, {499, 79}, {500, 80}};
            for (int[] pair : pairs) {
                one(OIL, pair[0]).asks(0, REACH, 0, pair[1]);
            }
        });
        sentence("divisions cut: TWIN: half of ABOVE of m + 1", () -> {
            one(TWIN, 0).asks(0, REACH, 10, -1);
            one(TWIN, 0).asks(0, REACH, 11, -6);
            one(TWIN, 0).asks(0, REACH, 8, 7);
        });
        sentence("divisions cut: GAS: SOOT / 10", () -> {
            int[][] pairs = {{9, 30}, {10, 29}, {19, 29}, {-9, 30}, {-10, 31}, {-19, 31}};
            for (int[] pair : pairs) {
                one(GAS, 0).asked(0, BURN, pair[0]).asks(0, REACH, 0, pair[1]);
            }
        });
        sentence("divisions cut: BUOY: half of ABOVE of m", () -> {
            one(BUOY, 0).asks(0, REACH, 9, 1);
            one(BUOY, 0).asks(0, REACH, 11, -1);
            one(BUOY, 9).asks(0, REACH, 12, -3);
        });
        sentence("divisions cut: SWING: ABOVE of t / 3", () -> {
            int[][] pairs = {{2, 0}, {3, 100}, {11, 100}, {12, 0}, {14, 0}, {15, 100}, {-2, 0}, {-3, 100},
                {MIN, 100}, {MAX, 100}};
            for (int[] pair : pairs) {
                one(SWING, 0).asks(0, FLASH, pair[0], pair[1]);
            }
        });
        sentence("divisions cut: ROUND: ABOVE of n / 2", () -> {
            int[][] pairs = {{1, 9}, {2, 7}, {3, 6}, {-1, 11}, {-2, 13}, {-3, 14}};
            for (int[] pair : pairs) {
                one(ROUND, 0).asked(0, BURN, 10).asks(0, TEND, pair[0], pair[1]);
            }
        });
        sentence("rests have the sign of what is divided: SOOT % 5", () -> {
            int[][] pairs = {{8, 4}, {10, 0}, {12, 1}, {-2, -1}, {-8, -4}, {-10, 0}, {-12, -1}};
            for (int[] pair : pairs) {
                one(FLARE, 9).asked(0, BURN, pair[0]).asks(0, RANK, 0, pair[1]);
            }
            one(FLARE, 9).asked(0, TEND, -MAX).asked(0, BURN, 2).asks(0, RANK, 0, -3);
        });
    }

    private static void edgesOfBurnAndReach() {
        sentence("What a BODY asks is asked in the order in which it is written", () -> {
            Run r = run().lamps(100, OUTER, TWIN);
            r.asked(0, HORN, 1).traces(5, 96, 76, 94, 74, 4, 81, 61, 1);
            r.asked(0, FLASH, 0).traces(92, 72, 2, 72);
            r.asked(0, FLASH, 1).traces(92, 72, 72, 2);
            r.asked(1, HORN, 1).traces(5, 16, 31, 21, 1, 21, 1);
        });
        sentence("BURN of h: 0", () -> {
            Run r = run().dials(1000).lamps(500, OIL, TWIN, SWING, FLARE, OUTER);
            int[] want = {1, 2, 2, 1, 1};
            for (int lamp = 0; lamp < 5; lamp++) {
                r.asks(lamp, BURN, 0, want[lamp]);
                r.tells(lamp, 3, 0);
            }
        });
        sentence("OIL: ABOVE of h, and SOOT / 50, as it is behind that", () -> {
            Run r = one(OIL, 0);
            r.asks(0, BURN, 49, 1);
            r.asks(0, BURN, 1, 2);
            r.asks(0, BURN, -1, 1);
        });
        sentence("TWIN: ABOVE of h, and ABOVE of h once more (asked twice)", () -> {
            int[][] rows = {{24, 2, 48}, {25, 3, 50}, {49, 3, 98}, {50, 5, 100}};
            for (int[] row : rows) {
                Run r = one(TWIN, 0);
                r.asks(0, BURN, row[0], row[1]);
                r.traces(30, 10, 0, 10, 0);
                r.tells(0, 3, row[2]);
            }
        });
        sentence("OUTER: ABOVE of h less D1, but 0, if that is below 0", () -> {
            one(OUTER, 0, 10, 40).asks(0, BURN, 8, 1);
            one(OUTER, 0, 10, 41).asks(0, BURN, 8, 0);
            one(OUTER, 0, 10, 42).asks(0, BURN, 8, 0);
            one(OUTER, 0, 10, 0).asks(0, BURN, -8, 0);
            Run r = one(OUTER, 0, 10, 1000);
            r.asks(0, BURN, 8, 0);
            r.tells(0, 3, 4);
            r.traces(90, 70, 0);
        });
        sentence("DRUM: ABOVE of m, but 20, if that is below 20", () -> {
            one(DRUM, 0, 0, 0, 5).asks(0, REACH, 7, 20);
            one(TWIN, 0, 0, 0, 5).asks(0, REACH, 7, 19);
            one(DRUM, 0).asks(0, REACH, 5, 21);
            one(TWIN, 0).asks(0, REACH, 5, 21);
            one(SWING, 0).asks(0, REACH, 1000000, 20);
        });
        sentence("GAS: ABOVE of m less SOOT / 10: it may be below 0", () -> {
            one(GAS, 0).asked(0, BURN, 300).asks(0, REACH, 0, 0);
            one(GAS, 0).asked(0, BURN, 310).asks(0, REACH, 0, -1);
        });
    }

    private static void edgesOfFlashTendAndRank() {
        sentence("TWIN: 0, if the two lowest bits of t are 0 (ABOVE is not asked then), else ABOVE of t", () -> {
            Run r = run().lamps(0, TWIN);
            for (int t : new int[] {0, 4, -4, MIN, MAX - 3}) {
                r.asks(0, FLASH, t, 0);
                r.traces(32);
            }
            for (int t : new int[] {1, 2, 3, 5, -1, -2, -3, MAX, MIN + 1}) {
                r.asks(0, FLASH, t, 100);
                r.traces(32, 2);
            }
        });
        sentence("FLARE: ABOVE of t, if t is even, else 0 (likewise)", () -> {
            Run r = run().lamps(0, FLARE);
            for (int t : new int[] {0, 2, -2, MIN, MAX - 1}) {
                r.asks(0, FLASH, t, 100);
                r.traces(72, 2);
            }
            for (int t : new int[] {1, -1, 3, -3, MAX, MIN + 1}) {
                r.asks(0, FLASH, t, 0);
                r.traces(72);
            }
        });
        sentence("SOOT becomes n less, but 0, if that is below 0; SOOT is told", () -> {
            int[][] pairs = {{9, 1}, {10, 0}, {11, 0}, {MAX, 0}, {0, 10}, {-1, 11}};
            for (int[] pair : pairs) {
                Run r = one(OIL, 0).asked(0, BURN, 10);
                r.asks(0, TEND, pair[0], pair[1]);
                r.tells(0, 3, pair[1]);
            }
            one(OIL, 0).asked(0, BURN, -10).asks(0, TEND, 0, 0);
            one(OIL, 0).asked(0, BURN, -10).asks(0, TEND, -10, 0);
            one(OIL, 0).asked(0, BURN, -10).asks(0, TEND, -11, 1);
        });
        sentence("ROUND: ABOVE of n, then ABOVE of n / 2; the latter is told", () -> {
            Run r = one(ROUND, 0).asked(0, BURN, 15);
            r.asks(0, TEND, 10, 0);
            r.asks(0, TEND, -10, 15);
            r.asks(0, TEND, 9, 2);
            r.traces(23, 3, 3);
            Run below = one(ROUND, 0).asked(0, BURN, -8);
            below.asks(0, TEND, -6, 3);
        });
        sentence("DRUM: ABOVE of n + D3", () -> {
            one(DRUM, 0, 0, 0, 0, 1000).asks(0, TEND, -1000, 0);
            one(DRUM, 0, 0, 0, 0, 1000).asks(0, TEND, -1002, 3);
            one(DRUM, 0, 0, 0, 0, 0).asks(0, TEND, -2, 3);
        });
        sentence("BUOY: ABOVE of n, if D4 is 0; else D4", () -> {
            for (int d4 : new int[] {0, 1, 1000}) {
                Run r = one(BUOY, 0, 0, 0, 0, 0, d4).asked(0, BURN, 20);
                r.asks(0, TEND, 4, d4 == 0 ? 6 : d4);
                r.tells(0, 3, d4 == 0 ? 6 : 10);
                r.counts(2, d4 == 0 ? 2 : 1);
            }
        });
        sentence("RANK: LAMP: HEIGHT % 9", () -> {
            int[][] pairs = {{0, 0}, {8, 8}, {9, 0}, {10, 1}, {500, 5}};
            for (int[] pair : pairs) {
                one(GAS, pair[0]).asks(0, RANK, 0, pair[1]);
                one(OIL, pair[0]).asks(0, RANK, 0, pair[1] + 1);
                one(DRUM, pair[0]).asks(0, RANK, 0, 2 * pair[1] + 2);
            }
        });
        sentence("OUTER: ABOVE and TANK % 3", () -> {
            int[][] pairs = {{1, 1}, {2, 2}, {3, 0}, {100000, 1}};
            for (int[] pair : pairs) {
                one(OUTER, 9).filled(0, pair[0]).asks(0, RANK, 0, pair[1]);
            }
        });
    }

    private static void horned() {
        sentence("HORNED are TWIN and those of it, FLARE and those of it", () -> {
            Run r = run();
            for (int kind = OIL; kind <= OUTER; kind++) {
                r.lamps(0, kind).tells(kind - 1, 5, kind == OIL || kind == ROUND || kind == GAS ? 0 : 1);
            }
        });
        sentence("HORN (5) of n, lent to them: TONE times n, and REACH of 0: TONE is asked for n = 0 too", () -> {
            Run r = one(FLARE, 0);
            r.asks(0, HORN, 0, 30);
            r.traces(5, 76, 61, 1);
            r.asks(0, HORN, -1, 21);
        });
        sentence("SWING has its own: TONE and n", () -> {
            Run r = one(SWING, 500, 0, 0, 1000, 0, 0, 1000);
            r.asks(0, HORN, 0, 1007);
            r.traces(55, 46, 16);
            r.asks(0, HORN, -1008, -1);
        });
        sentence("DRUM: ABOVE and D5", () -> {
            one(DRUM, 0, 0, 0, 0, 0, 0, 0).asks(0, TONE, 0, 7);
            one(DRUM, 0, 0, 0, 0, 0, 0, 1000).asks(0, TONE, 0, 1007);
            one(TWIN, 0, 0, 0, 0, 0, 0, 1000).asks(0, TONE, 0, 7);
        });
        sentence("Of others than HORNED HORN and TONE are not asked: CAST", () -> {
            for (int kind : new int[] {OIL, ROUND, GAS}) {
                for (int member : new int[] {HORN, TONE}) {
                    Run r = used();
                    r.lamps(7, kind);
                    cast(r, "ask(3, " + member + ", 1)", CAST_LONG, () -> r.call().ask(3, member, 1));
                }
                Run r = used();
                r.lamps(7, kind);
                cast(r, "blow(3, 1)", CAST, () -> r.call().blow(3, 1));
            }
        });
    }

    private static void traceTerms() {
        sentence("Each BODY that begins is written down .. ahead of what it does", () -> {
            Run r = one(SWING, 0);
            r.asked(0, REACH, 0).traces(41, 31, 21, 1, 21, 1);
            r.asked(0, RANK, 0).traces(44, 14, 4);
            r.asked(0, TONE, 0).traces(46, 16);
        });
        sentence("THE TRACE, of the latest act: a shorter one leaves nothing of a longer one", () -> {
            Run r = one(SWING, 0).asked(0, BURN, 1);
            r.counts(2, 6);
            r.asked(0, FLASH, 0).traces(52, 32);
            for (int i = 2; i < 6; i++) {
                due("trace(" + i + ")", r.call().trace(i), BAD);
            }
        });
        sentence("THE TRACE, of the latest act (ask(), blow(); seen(), night() with LIT ones): others are none", () -> {
            Run r = used();
            int acts = r.call().count(3);
            r.call().dial(0, 9);
            r.call().lamp(1, 9);
            r.call().haul(9);
            r.call().fill(0, 9);
            r.call().light(0, false);
            r.call().light(1, true);
            r.call().light(1, false);
            r.call().store();
            r.call().blown();
            r.call().told(0, 5);
            r.call().night(14);
            r.call().seen(9);
            r.counts(3, acts);
            r.traces(5, 16, 31, 21, 1, 21, 1);
        });
        sentence("THE TRACE, of the latest act (ask(), blow(); seen(), night() with LIT ones): each of these", () -> {
            Run r = run().lamps(0, GAS, FLARE);
            r.lit(0, 90);
            r.asked(0, FLASH, 1).traces(2);
            r.call().blow(1, 1);
            r.traces(5, 76, 61, 1);
            r.call().seen(1);
            r.traces(61, 1);
            r.call().night(1);
            r.traces(0);
            r.counts(3, 4);
        });
        sentence("of all LAMPS that were asked in it", () -> {
            Run r = run().lamps(0, OUTER, GAS, TWIN);
            r.lit(2, 90).lit(0, 90);
            r.call().seen(0);
            r.traces(81, 61, 1, 31, 21, 1, 21, 1);
            r.call().night(1);
            r.traces(90, 70, 0, 30, 10, 0, 10, 0);
        });
        sentence("of an act that ended with CAST it is empty", () -> {
            Run r = run().lamps(0, TWIN, GAS).asked(0, BURN, 1);
            r.counts(2, 5);
            r.call().blow(1, 1);
            r.traces();
            r.asked(0, BURN, 1).counts(2, 5);
            r.asked(1, HORN, 1).traces();
            r.asked(0, BURN, 1).counts(2, 5);
            r.asked(1, TONE, 1).traces();
        });
        sentence("1000 entries at most: sixty lamps in one act write all of theirs", () -> {
            Run r = run();
            for (int lamp = 0; lamp < 60; lamp++) {
                r.lamps(0, SWING).lit(lamp, 100);
            }
            r.call().night(1);
            r.counts(2, 360);
            due("trace(354)", r.call().trace(354), 50);
            due("trace(359)", r.call().trace(359), 0);
            due("trace(360)", r.call().trace(360), BAD);
            r.call().seen(9);
            r.counts(2, 360);
            due("trace(354)", r.call().trace(354), 41);
            due("trace(359)", r.call().trace(359), 1);
            due("trace(360)", r.call().trace(360), BAD);
        });
        sentence("1000 entries at most (then no more are written)", BoundaryTests::thousandEntries);
    }

    /** No run of calls can write a thousand entries in one act, so the bodies' own pen is held from outside. */
    private static void thousandEntries() {
        Run r = one(GAS, 0).asked(0, FLASH, 0);
        for (int i = 1; i < 999; i++) {
            writeDown(r, 3, 1);
        }
        r.counts(2, 999);
        due("trace(999)", r.call().trace(999), BAD);
        writeDown(r, 9, 4);
        r.counts(2, 1000);
        due("trace(999)", r.call().trace(999), 94);
        due("trace(1000)", r.call().trace(1000), BAD);
        for (int i = 0; i < 3; i++) {
            writeDown(r, 5, 5);
            r.counts(2, 1000);
            due("trace(0)", r.call().trace(0), 2);
            due("trace(998)", r.call().trace(998), 31);
            due("trace(999)", r.call().trace(999), 94);
            due("trace(1000)", r.call().trace(1000), BAD);
        }
        r.asked(0, FLASH, 0).traces(2);
    }

    private static void writeDown(Run r, int kind, int member) {
        try {
            Field field = CoastLamps.class.getDeclaredField("coast");
            field.setAccessible(true);
            Object coast = field.get(r.object);
            Method begins = coast.getClass().getDeclaredMethod("begins", int.class, int.class);
            begins.setAccessible(true);
            begins.invoke(coast, kind, member);
        } catch (ReflectiveOperationException gone) {
            throw new IllegalStateException("the trace is held otherwise now: mend this test", gone);
        }
    }

    private static void newObjects() {
        sentence("No LAMPS; night 0", () -> {
            Run r = run();
            for (int what = 0; what <= 3; what++) {
                r.counts(what, 0);
            }
            due("trace(0)", r.call().trace(0), BAD);
        });
        sentence("THE STORE is a long, 0 at first", () -> due("store()", run().call().store(), 0));
        sentence("No LAMPS: what is asked of the first one is refused", () -> {
            Run r = run();
            r.call().haul(10);
            refused(r, "ask(0, 0, 1)", LEAST, () -> r.call().ask(0, 0, 1));
            refused(r, "ask(0, 5, 1)", LEAST, () -> r.call().ask(0, 5, 1));
            refused(r, "fill(0, 1)", BAD, () -> r.call().fill(0, 1));
            refused(r, "light(0, true)", BAD, () -> r.call().light(0, true));
            refused(r, "light(0, false)", BAD, () -> r.call().light(0, false));
            refused(r, "blow(0, 1)", BAD, () -> r.call().blow(0, 1));
            refused(r, "told(0, 0)", LEAST, () -> r.call().told(0, 0));
            refused(r, "seen(0)", LACK, () -> r.call().seen(0));
            due("night(1)", r.call().night(1), 0);
            r.counts(1, 1);
            r.counts(3, 0);
        });
        sentence("A new object has nothing of another one", () -> {
            Run other = used();
            String before = run().everything();
            other.call().night(3);
            other.call().lamp(1, 1);
            same("another object", before, run().everything());
        });
        sentence("An object is used for at most 512 calls: the last of them answers too", () -> {
            Run r = run();
            for (int i = 1; i <= 511; i++) {
                r.call().haul(100000);
            }
            due("store()", r.call().store(), 51100000);
        });
        sentence("BAD = -1, FULL = -2, LACK = -3, CAST = -4", () -> {
            due("BAD", CoastLamps.BAD, -1);
            due("FULL", CoastLamps.FULL, -2);
            due("LACK", CoastLamps.LACK, -3);
            due("CAST", CoastLamps.CAST, -4);
        });
    }

    private static void dialsAndLamps() {
        sentence("DIAL k becomes v: what it was", () -> {
            Run r = run();
            due("dial(7, 1000)", r.call().dial(7, 1000), 0);
            due("dial(7, 1000)", r.call().dial(7, 1000), 1000);
            due("dial(7, 0)", r.call().dial(7, 0), 1000);
            due("dial(7, 0)", r.call().dial(7, 0), 0);
            due("dial(6, 0)", r.call().dial(6, 0), 0);
        });
        sentence("A LAMP of a KIND (1 .. 9)", () -> {
            Run r = used();
            due("lamp(1, 5)", r.call().lamp(1, 5), 3);
            due("lamp(9, 5)", r.call().lamp(9, 5), 4);
            r.tells(3, 0, 1);
            r.tells(4, 0, 9);
            refusedEach(r, "lamp(kind, 5)", BAD, kind -> r.call().lamp(kind, 5), 0, 10, -1, MIN, MAX);
        });
        sentence("its number, from 0 on: a refused call takes none", () -> {
            Run r = run();
            due("lamp(0, 5)", r.call().lamp(0, 5), BAD);
            due("lamp(4, 5)", r.call().lamp(4, 5), 0);
            due("lamp(4, 501)", r.call().lamp(4, 501), BAD);
            due("lamp(4, 5)", r.call().lamp(4, 5), 1);
        });
        sentence("FULL: 60 there are", () -> {
            Run r = run();
            for (int lamp = 0; lamp < 59; lamp++) {
                r.lamps(5, OIL);
            }
            due("the sixtieth lamp", r.call().lamp(OUTER, 500), 59);
            refused(r, "the sixty-first lamp", FULL, () -> r.call().lamp(OIL, 0));
            refused(r, "the sixty-first lamp again", FULL, () -> r.call().lamp(OUTER, 500));
            refused(r, "the sixty-first lamp, of no kind", BAD, () -> r.call().lamp(0, 5));
            refused(r, "the sixty-first lamp, of kind 10", BAD, () -> r.call().lamp(10, 5));
            refused(r, "the sixty-first lamp, too high", BAD, () -> r.call().lamp(OIL, 501));
        });
        sentence("FULL: 60 there are: the last of them is as good as the first", () -> {
            Run r = run();
            for (int lamp = 0; lamp < 60; lamp++) {
                r.lamps(lamp, lamp == 59 ? FLARE : OIL);
            }
            r.tells(59, 1, 59);
            r.lit(59, 9);
            due("seen(0)", r.call().seen(0), 59);
            due("blow(59, 1)", r.call().blow(59, 1), 1);
            due("night(9)", r.call().night(9), 0);
            due("night(9)", r.call().night(9), 0);
            r.tells(59, 2, 7);
            r.asks(59, RANK, 0, 8);
            refused(r, "ask(60, 0, 1)", LEAST, () -> r.call().ask(60, 0, 1));
            refused(r, "fill(60, 1)", BAD, () -> r.call().fill(60, 1));
            refused(r, "light(60, false)", BAD, () -> r.call().light(60, false));
            refused(r, "blow(60, 1)", BAD, () -> r.call().blow(60, 1));
            refused(r, "told(60, 0)", LEAST, () -> r.call().told(60, 0));
        });
    }

    private static void asksAndTraces() {
        sentence("A MEMBER (0 .. 6) of a LAMP is asked", () -> {
            Run r = used();
            r.asks(1, 0, 0, 2);
            r.asks(1, 6, 0, 7);
            refusedEach(r, "ask(1, member, 1)", LEAST, member -> r.call().ask(1, member, 1), -1, 7, MIN, MAX);
            refusedEach(r, "ask(2, member, 1)", LEAST, member -> r.call().ask(2, member, 1), -1, 7, MIN, MAX);
        });
        sentence("with n (.. of 4 and 6 of no matter)", () -> {
            Run r = one(OUTER, 400);
            for (int n : new int[] {0, -1, 1, MIN, MAX}) {
                r.asks(0, RANK, n, 4);
                r.asks(0, TONE, n, 13);
            }
        });
        sentence("The least long: BAD (LAMP ..)", () -> {
            Run r = used();
            r.asks(0, FLASH, 1, 100);
            r.asks(2, FLASH, 1, 100);
            refusedEach(r, "ask(lamp, 0, 1)", LEAST, lamp -> r.call().ask(lamp, 0, 1), -1, 3, MIN, MAX);
        });
        sentence("The least long: BAD (LAMP, MEMBER): ahead of CAST", () -> {
            Run r = used();
            refused(r, "ask(3, 5, 1)", LEAST, () -> r.call().ask(3, 5, 1));
            refused(r, "ask(-1, 6, 1)", LEAST, () -> r.call().ask(-1, 6, 1));
            refused(r, "ask(3, 7, 1)", LEAST, () -> r.call().ask(3, 7, 1));
        });
        sentence("one more: CAST (5, 6 of one that is not HORNED)", () -> {
            Run r = run().lamps(9, ROUND);
            r.asks(0, RANK, 1, 1);
            for (int n : new int[] {0, MIN, MAX}) {
                r.asks(0, HORN, n, CAST_LONG);
                r.asks(0, TONE, n, CAST_LONG);
            }
            r.counts(3, 7);
        });
        sentence("Entry i of THE TRACE, from the first (0) on; BAD: there is none", () -> {
            Run r = run().lamps(9, ROUND);
            for (int i : new int[] {0, 1, -1, 999, 1000, MIN, MAX}) {
                due("trace(" + i + ") of no act", r.call().trace(i), BAD);
            }
            r.asked(0, REACH, 0);
            due("trace(0)", r.call().trace(0), 21);
            due("trace(1)", r.call().trace(1), 1);
            refusedEach(r, "trace(i)", BAD, i -> r.call().trace(i), 2, -1, 999, 1000, MIN, MAX);
        });
    }

    private static void haulsAndFills() {
        sentence("n (1 .. 100000) come into THE STORE: it", () -> {
            Run r = used();
            long before = r.call().store();
            due("haul(1)", r.call().haul(1), before + 1);
            due("haul(100000)", r.call().haul(100000), before + 100001);
            due("store()", r.call().store(), before + 100001);
            refusedEach(r, "haul(n)", LEAST, n -> r.call().haul(n), 0, 100001, -1, MIN, MAX);
        });
        sentence("n (1 .. 100000) go from THE STORE into the TANK of a LAMP: the TANK", () -> {
            Run r = run().lamps(1, OIL, GAS);
            r.call().haul(100000);
            r.call().haul(100000);
            due("fill(1, 1)", r.call().fill(1, 1), 1);
            due("fill(1, 100000)", r.call().fill(1, 100000), 100001);
            due("store()", r.call().store(), 99999);
            r.tells(0, 2, 0);
            refusedEach(r, "fill(0, n)", BAD, n -> r.call().fill(0, n), 0, 100001, -1, MIN, MAX);
            refusedEach(r, "fill(lamp, 1)", BAD, lamp -> r.call().fill(lamp, 1), -1, 2, MIN, MAX);
        });
        sentence("n go from THE STORE into the TANK: of one that is LIT it is no other", () -> {
            Run r = used();
            due("fill(0, 1)", r.call().fill(0, 1), r.call().told(0, 2));
            r.tells(0, 4, 1);
        });
        sentence("LACK: not so many are there", () -> {
            Run r = run().lamps(1, OIL);
            refused(r, "fill(0, 1)", LACK, () -> r.call().fill(0, 1));
            r.call().haul(10);
            refused(r, "fill(0, 11)", LACK, () -> r.call().fill(0, 11));
            due("fill(0, 10)", r.call().fill(0, 10), 10);
            due("store()", r.call().store(), 0);
            refused(r, "fill(0, 1)", LACK, () -> r.call().fill(0, 1));
        });
        sentence("BAD; LACK: the former is looked at first", () -> {
            Run r = run().lamps(1, OIL);
            refused(r, "fill(0, 100001)", BAD, () -> r.call().fill(0, 100001));
            refused(r, "fill(1, 1)", BAD, () -> r.call().fill(1, 1));
        });
        sentence("FULL: the TANK would be above 1000000", () -> {
            Run r = run().lamps(1, OIL);
            for (int i = 1; i <= 9; i++) {
                r.filled(0, 100000);
            }
            r.filled(0, 99999);
            r.tells(0, 2, 999999);
            r.call().haul(100000);
            refused(r, "fill(0, 2)", FULL, () -> r.call().fill(0, 2));
            refused(r, "fill(0, 100000)", FULL, () -> r.call().fill(0, 100000));
            due("fill(0, 1)", r.call().fill(0, 1), 1000000);
            refused(r, "fill(0, 1)", FULL, () -> r.call().fill(0, 1));
            due("store()", r.call().store(), 99999);
        });
        sentence("LACK ..; FULL: the former is looked at first", () -> {
            Run r = run().lamps(1, OIL);
            for (int i = 1; i <= 10; i++) {
                r.filled(0, 100000);
            }
            refused(r, "fill(0, 1)", LACK, () -> r.call().fill(0, 1));
            r.call().haul(1);
            refused(r, "fill(0, 2)", LACK, () -> r.call().fill(0, 2));
            refused(r, "fill(0, 1)", FULL, () -> r.call().fill(0, 1));
        });
    }

    private static void lights() {
        sentence("A LAMP is LIT, or put out: 1; 0: it is so already", () -> {
            Run r = run().lamps(1, OIL, OIL).filled(0, 1).filled(1, 1);
            refused(r, "light(0, false)", 0, () -> r.call().light(0, false));
            due("light(0, true)", r.call().light(0, true), 1);
            r.tells(0, 4, 1);
            r.tells(1, 4, 0);
            refused(r, "light(0, true)", 0, () -> r.call().light(0, true));
            due("light(0, false)", r.call().light(0, false), 1);
            r.tells(0, 4, 0);
            r.tells(0, 2, 1);
            refused(r, "light(0, false)", 0, () -> r.call().light(0, false));
        });
        sentence("light: BAD", () -> {
            Run r = used();
            refusedEach(r, "light(lamp, true)", BAD, lamp -> r.call().light(lamp, true), -1, 3, MIN, MAX);
            refusedEach(r, "light(lamp, false)", BAD, lamp -> r.call().light(lamp, false), -1, 3, MIN, MAX);
        });
        sentence("LACK: it is to be LIT, and its TANK is 0", () -> {
            Run r = run().lamps(1, GAS);
            refused(r, "light(0, true)", LACK, () -> r.call().light(0, true));
            refused(r, "light(0, false)", 0, () -> r.call().light(0, false));
            r.lit(0, 1);
            r.tells(0, 4, 1);
            due("night(1)", r.call().night(1), 1);
            refused(r, "light(0, true) behind going out", LACK, () -> r.call().light(0, true));
            refused(r, "light(0, false) behind going out", 0, () -> r.call().light(0, false));
        });
    }

    private static void nights() {
        sentence("A night of h hours (1 .. 14)", () -> {
            Run r = used();
            due("night(1)", r.call().night(1), 0);
            due("night(14)", r.call().night(14), 0);
            r.counts(1, 3);
            refusedEach(r, "night(h)", BAD, h -> r.call().night(h), 0, 15, -1, MIN, MAX);
        });
        sentence("night: BAD, with none LIT too", () -> {
            Run r = run().lamps(1, OIL);
            refused(r, "night(0)", BAD, () -> r.call().night(0));
            refused(r, "night(15)", BAD, () -> r.call().night(15));
        });
        sentence("each LIT LAMP: with none of them it is a night, and no act", () -> {
            Run r = used();
            r.call().light(0, false);
            String things = r.things();
            int acts = r.call().count(3);
            due("night(14)", r.call().night(14), 0);
            same("night(14)", things, r.things());
            r.counts(1, 2);
            r.counts(3, acts);
            r.traces(5, 16, 31, 21, 1, 21, 1);
        });
        sentence("each LIT LAMP, by numbers, is asked for BURN of h", () -> {
            Run r = run().dials(2).lamps(1, OUTER, TWIN, GAS, OIL);
            r.lit(3, 100).lit(1, 100).lit(0, 100).filled(2, 100);
            due("night(14)", r.call().night(14), 0);
            r.traces(90, 70, 0, 30, 10, 0, 10, 0, 10, 0);
            long[] tank = {85, 42, 100, 71};
            long[] soot = {7, 28, 0, 14};
            for (int lamp = 0; lamp < 4; lamp++) {
                r.tells(lamp, 2, tank[lamp]);
                r.tells(lamp, 3, soot[lamp]);
            }
        });
        sentence("a BURN below 0 counts as 0", () -> {
            int[][] rows = {{-15, 9, 1}, {-64, 10, 1}, {-114, 10, 1}, {-1000, 10, 1}};
            for (int[] row : rows) {
                Run r = run().lamps(1, OIL).lit(0, 10).asked(0, BURN, row[0]);
                due("night(14) with soot " + row[0], r.call().night(14), 0);
                r.tells(0, 2, row[1]);
                r.tells(0, 4, row[2]);
                r.tells(0, 3, row[0] + 14);
            }
        });
        sentence("a BURN below 0 counts as 0: of SOOT that wraps in that night", () -> {
            Run r = run().lamps(1, OIL).lit(0, 10).asked(0, BURN, MAX);
            due("night(1)", r.call().night(1), 0);
            r.tells(0, 2, 10);
            r.tells(0, 3, MIN);
        });
        sentence("if the TANK has not more than that, it is 0, and the LAMP is not LIT any more", () -> {
            int[][] rows = {{16, 1, 1, 0}, {15, 0, 0, 1}, {14, 0, 0, 1}, {1, 0, 0, 1}};
            for (int[] row : rows) {
                Run r = run().dials(1).lamps(1, GAS).lit(0, row[0]);
                due("night(14) with " + row[0], r.call().night(14), row[3]);
                r.tells(0, 2, row[1]);
                r.tells(0, 4, row[2]);
                r.tells(0, 3, 14);
            }
        });
        sentence("if the TANK has not more than that: a BURN of 0 leaves the last one LIT", () -> {
            Run r = run().dials(0, 1).lamps(1, OUTER).lit(0, 1);
            due("night(14)", r.call().night(14), 0);
            r.tells(0, 2, 1);
            r.tells(0, 4, 1);
        });
        sentence("how many of these", () -> {
            Run r = run();
            for (int lamp = 0; lamp < 60; lamp++) {
                r.lamps(1, GAS).lit(lamp, lamp == 30 ? 2 : 1);
            }
            due("night(14)", r.call().night(14), 59);
            due("night(14)", r.call().night(14), 1);
            due("night(14)", r.call().night(14), 0);
            r.counts(1, 3);
            r.counts(3, 2);
        });
    }

    private static void sights() {
        sentence("The LIT LAMP with the greatest REACH of m (0 .. 9)", () -> {
            Run r = used();
            due("seen(0)", r.call().seen(0), 0);
            due("seen(9)", r.call().seen(9), 0);
            refusedEach(r, "seen(m)", BAD, m -> r.call().seen(m), -1, 10, MIN, MAX);
        });
        sentence("seen: the greatest is sought at m itself", () -> {
            Run r = run().lamps(0, TWIN, DRUM);
            r.lit(0, 9).lit(1, 9);
            due("seen(5)", r.call().seen(5), 0);
            due("seen(6)", r.call().seen(6), 1);
        });
        sentence("The LIT LAMP: one that is out, and one that went out, are not seen", () -> {
            Run r = run().lamps(500, GAS).lamps(100, GAS).lamps(200, GAS);
            r.filled(0, 9).lit(1, 9).lit(2, 1);
            due("seen(0)", r.call().seen(0), 2);
            due("night(1)", r.call().night(1), 1);
            due("seen(0)", r.call().seen(0), 1);
            r.traces(61, 1);
        });
        sentence("of like ones the first (each is asked, by numbers)", () -> {
            Run r = run().lamps(100, GAS).lamps(110, GAS, OIL).lamps(119, GAS);
            for (int lamp = 3; lamp >= 0; lamp--) {
                r.lit(lamp, 99);
            }
            due("seen(0)", r.call().seen(0), 1);
            r.traces(61, 1, 61, 1, 1, 61, 1);
            r.call().light(1, false);
            due("seen(0)", r.call().seen(0), 2);
        });
        sentence("the greatest REACH: of 0, and below 0", () -> {
            Run r = run().lamps(0, GAS, GAS, GAS);
            for (int lamp = 0; lamp < 3; lamp++) {
                r.lit(lamp, 99).asked(lamp, BURN, lamp == 1 ? 300 : 310);
            }
            due("seen(0)", r.call().seen(0), 1);
            due("seen(9)", r.call().seen(9), 1);
            r.asked(1, BURN, 20);
            due("seen(0)", r.call().seen(0), 0);
        });
        sentence("NONE is LIT: LACK", () -> {
            Run r = used();
            r.call().light(0, false);
            refusedEach(r, "seen(m)", LACK, m -> r.call().seen(m), 0, 9);
        });
        sentence("seen: BAD, with none LIT too", () -> {
            Run r = run().lamps(1, OIL);
            refused(r, "seen(-1)", BAD, () -> r.call().seen(-1));
            refused(r, "seen(10)", BAD, () -> r.call().seen(10));
        });
    }

    private static void horns() {
        sentence("A LAMP's HORN is blown by n: 1, and what HORN of n answers is told by blown()", () -> {
            Run r = run().lamps(0, TWIN, SWING);
            int[][] rows = {{0, 0, 43}, {0, -1, 36}, {0, MAX, -2147483612}, {1, MIN, -2147483641}, {1, -7, 0}};
            for (int[] row : rows) {
                due("blow(" + row[0] + ", " + row[1] + ")", r.call().blow(row[0], row[1]), 1);
                due("blown()", r.call().blown(), row[2]);
            }
            r.counts(3, 5);
        });
        sentence("blow: CAST", () -> {
            Run r = used();
            cast(r, "blow(0, 1)", CAST, () -> r.call().blow(0, 1));
            cast(r, "blow(2, MAX)", CAST, () -> r.call().blow(2, MAX));
        });
        sentence("blow: BAD", () -> {
            Run r = used();
            refusedEach(r, "blow(lamp, 1)", BAD, lamp -> r.call().blow(lamp, 1), -1, 3, MIN, MAX);
        });
        sentence("The answer of the latest blow() that answered 1; 0 before", () -> {
            Run r = run().lamps(0, SWING, OIL);
            due("blown()", r.call().blown(), 0);
            due("blow(1, 1)", r.call().blow(1, 1), CAST);
            due("blow(2, 1)", r.call().blow(2, 1), BAD);
            r.asks(0, HORN, 1, 8);
            due("blown()", r.call().blown(), 0);
            due("blow(0, 2)", r.call().blow(0, 2), 1);
            due("blown()", r.call().blown(), 9);
            due("blow(1, 1)", r.call().blow(1, 1), CAST);
            due("blow(-1, 1)", r.call().blow(-1, 1), BAD);
            r.asks(0, HORN, 1, 8);
            due("blown()", r.call().blown(), 9);
        });
    }

    private static void tellings() {
        sentence("Of a LAMP: what = 0 KIND .. 5 whether it is HORNED", () -> {
            Run r = used();
            long[] oil = {OIL, 111, 46, 3, 1, 0};
            long[] twin = {TWIN, 111, 60, 0, 0, 1};
            for (int what = 0; what <= 5; what++) {
                r.tells(0, what, oil[what]);
                r.tells(1, what, twin[what]);
            }
            refusedEach(r, "told(0, what)", LEAST, what -> r.call().told(0, what), -1, 6, MIN, MAX);
        });
        sentence("told: The least long: BAD: of a LAMP", () -> {
            Run r = used();
            refusedEach(r, "told(lamp, 0)", LEAST, lamp -> r.call().told(lamp, 0), -1, 3, MIN, MAX);
            refusedEach(r, "told(lamp, 5)", LEAST, lamp -> r.call().told(lamp, 5), -1, 3, MIN, MAX);
            refusedEach(r, "told(lamp, 6)", LEAST, lamp -> r.call().told(lamp, 6), -1, 3, MIN, MAX);
        });
        sentence("What = 0 LAMPS .. 3 acts ever. BAD", () -> {
            Run r = used();
            long[] want = {3, 1, 7, 2};
            for (int what = 0; what <= 3; what++) {
                r.counts(what, want[what]);
            }
            refusedEach(r, "count(what)", BAD, what -> r.call().count(what), -1, 4, MIN, MAX);
        });
        sentence("3 acts ever: refused calls are none, CAST ends one", () -> {
            Run r = run().lamps(0, OIL, FLARE);
            r.call().ask(2, 0, 1);
            r.call().ask(0, 7, 1);
            r.call().blow(2, 1);
            r.call().seen(0);
            r.call().seen(10);
            r.call().night(1);
            r.call().night(15);
            r.counts(3, 0);
            r.call().ask(0, HORN, 1);
            r.counts(3, 1);
            r.call().blow(0, 1);
            r.counts(3, 2);
            r.call().ask(0, FLASH, 1);
            r.call().blow(1, 1);
            r.counts(3, 4);
            r.lit(0, 5);
            r.call().seen(0);
            r.call().night(1);
            r.counts(3, 6);
        });
        sentence("store: THE STORE", () -> {
            Run r = run().lamps(0, OIL);
            r.call().haul(100000);
            due("store()", r.call().store(), 100000);
            r.call().fill(0, 99999);
            due("store()", r.call().store(), 1);
            r.call().fill(0, 1);
            due("store()", r.call().store(), 0);
        });
    }

    public static void main(String[] args) {
        kinds();
        bounds();
        wrapsOfBurnAndTend();
        wrapsOfTheOthers();
        cuts();
        edgesOfBurnAndReach();
        edgesOfFlashTendAndRank();
        horned();
        traceTerms();
        newObjects();
        dialsAndLamps();
        asksAndTraces();
        haulsAndFills();
        lights();
        nights();
        sights();
        horns();
        tellings();
        System.out.println(wrong == 0 ? "all answers are as due, of " + sentences + " sentences"
            : wrong + " answers are not as due");
        if (wrong != 0) {
            System.exit(1);
        }
    }
}
