/**
 * Runs of calls whose order comes from a fixed seed, on CoastLamps and on a second telling of the document
 * that shares no code and no shape with it: kinds are numbers, and bodies are looked up in a table of texts.
 */
public final class ModelRuns {
    private static final int RUNS = 6000;
    // An object is promised for 512 calls; a step of a run makes at most STEP of them.
    private static final int CALLS = 512, STEP = 24;

    private static int wrong = 0;
    private static int used = 0;
    private static long seed = 20261116L;

    private static int below(int bound) {
        seed = seed * 6364136223846793005L + 1442695040888963407L;
        return (int) ((seed >>> 33) % bound);
    }

    private static int anyInt() {
        switch (below(8)) {
            case 0: return Integer.MAX_VALUE - below(3);
            case 1: return Integer.MIN_VALUE + below(3);
            case 2: return below(1 << 30) * (below(2) == 0 ? 4 : -3);
            case 3: return below(4000) - 2000;
            default: return below(41) - 15;
        }
    }

    /** Mostly within least .. most, at times just outside or far from it. */
    private static int near(int least, int most) {
        switch (below(12)) {
            case 0: return least - 1;
            case 1: return most + 1;
            case 2: return least;
            case 3: return most;
            case 4: return below(6) == 0 ? anyInt() : least;
            default: return least + below(most - least + 1);
        }
    }

    private static final class Model {
        static final int[] OF = {-1, 0, 1, 2, 3, 4, 0, 6, 7, 8};
        // Per member, the kinds that tell a body.
        static final String[] TELLS = {"013579", "023468", "03579", "0248", "01479", "05", "1479"};

        final int[] dial = new int[8];
        final int[] kind = new int[60], height = new int[60], tank = new int[60], soot = new int[60];
        final boolean[] lit = new boolean[60];
        final java.util.ArrayList<Integer> trace = new java.util.ArrayList<>();
        int lamps, nights, acts, blown;
        long store;

        boolean horned(int l) {
            return kind[l] >= 3 && kind[l] != 6;
        }

        int nearest(int member, int from) {
            int k = from;
            while (TELLS[member].indexOf('0' + k) < 0) {
                k = OF[k];
            }
            return k;
        }

        /** The body that a kind has; the horn is lent by 0 to all but SWING. */
        int body(int l, int member, int from, int n) {
            int k = nearest(member, from);
            if (trace.size() < 1000) {
                trace.add(10 * k + member);
            }
            switch (10 * member + k) {
                case 0: soot[l] += n; return n * dial[0] + 1;
                case 1: { int a = up(l, member, k, n); return a + soot[l] / 50; }
                case 3: { int a = up(l, member, k, n); int b = up(l, member, k, n); return a + b; }
                case 5: return up(l, member, k, n) + n / 2;
                case 7: return up(l, member, k, n / 2);
                case 9: { int a = up(l, member, k, n) - dial[1]; return a < 0 ? 0 : a; }
                case 10: return height[l] / 10 + 30 - 3 * n;
                case 12: return up(l, member, k, n) + dial[2];
                case 13: { int a = up(l, member, k, n); int b = up(l, member, k, n + 1); return a + b / 2; }
                case 14: { int a = up(l, member, k, n); return a < 20 ? 20 : a; }
                case 16: return up(l, member, k, n) - soot[l] / 10;
                case 18: return up(l, member, k, n) / 2;
                case 20: return 100;
                case 23: return n % 4 == 0 ? 0 : up(l, member, k, n);
                case 25: return up(l, member, k, n / 3);
                case 27: return n % 2 == 0 ? up(l, member, k, n) : 0;
                case 29: { int a = up(l, member, k, n); int b = up(l, member, k, n + 1); return a + b; }
                case 30: soot[l] -= n; if (soot[l] < 0) soot[l] = 0; return soot[l];
                case 32: up(l, member, k, n); return up(l, member, k, n / 2);
                case 34: return up(l, member, k, n + dial[3]);
                case 38: return dial[4] != 0 ? dial[4] : up(l, member, k, n);
                case 40: return height[l] % 9;
                case 41: return up(l, member, k, n) + 1;
                case 44: { int a = up(l, member, k, n); return a + a; }
                case 47: return up(l, member, k, n) + soot[l] % 5;
                case 49: return up(l, member, k, n) + tank[l] % 3;
                case 50: { int a = body(l, 6, kind[l], 0); int b = body(l, 1, kind[l], 0); return a * n + b; }
                case 55: return body(l, 6, kind[l], 0) + n;
                case 61: return 7;
                case 64: return up(l, member, k, n) + dial[5];
                case 67: return 9;
                case 69: { int a = up(l, member, k, n); int b = body(l, 4, kind[l], 0); return a + b; }
                default: throw new IllegalStateException("no body " + k + " of " + member);
            }
        }

        int up(int l, int member, int k, int n) {
            return body(l, member, OF[k], n);
        }

        void act() {
            acts++;
            trace.clear();
        }

        boolean has(int l) {
            return l >= 0 && l < lamps;
        }

        boolean anyLit() {
            for (int i = 0; i < lamps; i++) {
                if (lit[i]) return true;
            }
            return false;
        }

        long dial(int k, int v) {
            if (k < 0 || k > 7 || v < 0 || v > 1000) return -1;
            int was = dial[k];
            dial[k] = v;
            return was;
        }

        long lamp(int k, int h) {
            if (k < 1 || k > 9 || h < 0 || h > 500) return -1;
            if (lamps == 60) return -2;
            kind[lamps] = k;
            height[lamps] = h;
            return lamps++;
        }

        long ask(int l, int member, int n) {
            if (!has(l) || member < 0 || member > 6) return Long.MIN_VALUE;
            act();
            if (member > 4 && !horned(l)) return Long.MIN_VALUE + 1;
            return body(l, member, kind[l], n);
        }

        long haul(int n) {
            if (n < 1 || n > 100000) return Long.MIN_VALUE;
            return store += n;
        }

        long fill(int l, int n) {
            if (!has(l) || n < 1 || n > 100000) return -1;
            if (n > store) return -3;
            if (tank[l] + n > 1000000) return -2;
            store -= n;
            return tank[l] += n;
        }

        long light(int l, boolean on) {
            if (!has(l)) return -1;
            if (lit[l] == on) return 0;
            if (on && tank[l] == 0) return -3;
            lit[l] = on;
            return 1;
        }

        long night(int h) {
            if (h < 1 || h > 14) return -1;
            nights++;
            if (anyLit()) act();
            int out = 0;
            for (int i = 0; i < lamps; i++) {
                if (!lit[i]) continue;
                int b = body(i, 0, kind[i], h);
                if (b < 0) b = 0;
                tank[i] = tank[i] <= b ? 0 : tank[i] - b;
                if (tank[i] == 0) {
                    lit[i] = false;
                    out++;
                }
            }
            return out;
        }

        long seen(int m) {
            if (m < 0 || m > 9) return -1;
            if (!anyLit()) return -3;
            act();
            long best = Long.MIN_VALUE;
            int at = -3;
            for (int i = 0; i < lamps; i++) {
                if (!lit[i]) continue;
                int r = body(i, 1, kind[i], m);
                if (r > best) {
                    best = r;
                    at = i;
                }
            }
            return at;
        }

        long blow(int l, int n) {
            if (!has(l)) return -1;
            act();
            if (!horned(l)) return -4;
            blown = body(l, 5, kind[l], n);
            return 1;
        }

        long told(int l, int what) {
            if (!has(l)) return Long.MIN_VALUE;
            long[] row = {kind[l], height[l], tank[l], soot[l], lit[l] ? 1 : 0, horned(l) ? 1 : 0};
            return what < 0 || what > 5 ? Long.MIN_VALUE : row[what];
        }

        long count(int what) {
            int[] row = {lamps, nights, trace.size(), acts};
            return what < 0 || what > 3 ? -1 : row[what];
        }
    }

    private static void due(int run, String call, long got, long want) {
        used++;
        if (got != want && wrong++ < 40) {
            System.out.println("run " + run + ": " + call + " answered " + got + ", due is " + want);
        }
    }

    private static void sameTrace(int run, CoastLamps x, Model y) {
        int size = y.trace.size();
        int first = size <= 14 ? 0 : below(size - 13);
        for (int i = first; i < size && i < first + 14; i++) {
            due(run, "trace(" + i + ")", x.trace(i), y.trace.get(i));
        }
        int outside = below(2) == 0 ? size : below(2) == 0 ? -1 : size + below(1000);
        due(run, "trace(" + outside + ")", x.trace(outside), -1);
    }

    private static void sameState(int run, CoastLamps x, Model y) {
        int what = near(0, 3);
        due(run, "count(" + what + ")", x.count(what), y.count(what));
        due(run, "count(2)", x.count(2), y.count(2));
        int l = below(Math.max(y.lamps, 1));
        for (what = 2; what <= 4; what++) {
            due(run, "told(" + l + ", " + what + ")", x.told(l, what), y.told(l, what));
        }
        due(run, "store()", x.store(), y.store);
        due(run, "blown()", x.blown(), y.blown);
    }

    private static int anyHours() {
        return below(20) == 0 ? anyInt() : below(30);
    }

    private static void call(int run, CoastLamps x, Model y) {
        int l = near(0, Math.max(y.lamps - 1, 0));
        int a;
        int b;
        switch (below(16)) {
            case 0: a = near(0, 7); b = near(0, 1000);
                due(run, "dial(" + a + ", " + b + ")", x.dial(a, b), y.dial(a, b)); break;
            case 1: a = near(1, 9); b = near(0, 500);
                due(run, "lamp(" + a + ", " + b + ")", x.lamp(a, b), y.lamp(a, b)); break;
            case 2: a = near(1, 100000);
                due(run, "haul(" + a + ")", x.haul(a), y.haul(a)); break;
            case 3: case 4: a = below(2) == 0 ? near(1, 100000) : near(1, 300);
                due(run, "fill(" + l + ", " + a + ")", x.fill(l, a), y.fill(l, a)); break;
            case 5: case 6: { boolean on = below(5) != 0;
                due(run, "light(" + l + ", " + on + ")", x.light(l, on), y.light(l, on)); break; }
            case 7: a = near(1, 14);
                due(run, "night(" + a + ")", x.night(a), y.night(a)); break;
            case 8: a = near(0, 9);
                due(run, "seen(" + a + ")", x.seen(a), y.seen(a)); break;
            case 9: case 10: a = anyInt();
                due(run, "blow(" + l + ", " + a + ")", x.blow(l, a), y.blow(l, a)); break;
            case 11: a = near(0, 5);
                due(run, "told(" + l + ", " + a + ")", x.told(l, a), y.told(l, a)); break;
            default: a = near(0, 6); b = run % 3 == 0 ? anyInt() : anyHours();
                due(run, "ask(" + l + ", " + a + ", " + b + ")", x.ask(l, a, b), y.ask(l, a, b)); break;
        }
    }

    public static void main(String[] args) {
        for (int run = 0; run < RUNS; run++) {
            CoastLamps x = new CoastLamps();
            Model y = new Model();
            used = 0;
            int early = run % 4 == 0 ? 70 : below(12);
            for (int i = 0; i < early; i++) {
                int kind = near(1, 9);
                int height = near(0, 500);
                due(run, "lamp(" + kind + ", " + height + ")", x.lamp(kind, height), y.lamp(kind, height));
            }
            while (used + STEP <= CALLS) {
                call(run, x, y);
                sameTrace(run, x, y);
                sameState(run, x, y);
            }
        }
        System.out.println(wrong == 0 ? "all answers are as due" : wrong + " answers are not as due");
        if (wrong != 0) {
            System.exit(1);
        }
    }
}
