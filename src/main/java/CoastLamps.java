/** Lamps along a coast, of nine kinds; see DOC.md for the promises that the public methods keep. */
public final class CoastLamps {
    public static final int BAD = -1, FULL = -2, LACK = -3, CAST = -4;

    private static final long BAD_LONG = 1L << 63;
    private static final long CAST_LONG = BAD_LONG + 1;

    private static final int LAMP = 0, OIL = 1, ROUND = 2, TWIN = 3, DRUM = 4, SWING = 5;
    private static final int GAS = 6, FLARE = 7, BUOY = 8, OUTER = 9;

    private static final int BURN = 0, REACH = 1, FLASH = 2, TEND = 3, RANK = 4, HORN = 5, TONE = 6;

    private static final int DIALS = 8, MOST_DIAL = 1000;
    private static final int MOST_LAMPS = 60, MOST_HEIGHT = 500;
    private static final int MOST_ENTRIES = 1000;
    private static final int MOST_MOVED = 100000, MOST_TANK = 1000000;
    private static final int MOST_HOURS = 14, MOST_MILES = 9;

    private final Coast coast;
    private final Lamp[] lamps;
    private int lampCount;
    private int nights;
    private int acts;
    private int latestBlown;
    private long stored;

    public CoastLamps() {
        coast = new Coast();
        lamps = new Lamp[MOST_LAMPS];
    }

    public int dial(int k, int v) {
        if (!within(k, 0, DIALS - 1) || !within(v, 0, MOST_DIAL)) {
            return BAD;
        }
        int before = coast.dialed(k);
        coast.turn(k, v);
        return before;
    }

    public int lamp(int kind, int height) {
        if (!within(kind, OIL, OUTER) || !within(height, 0, MOST_HEIGHT)) {
            return BAD;
        }
        if (lampCount >= lamps.length) {
            return FULL;
        }
        int number = lampCount;
        lamps[number] = made(kind, height);
        lampCount++;
        return number;
    }

    public long ask(int lamp, int member, int n) {
        Lamp asked = lampAt(lamp);
        if (asked == null || !within(member, BURN, TONE)) {
            return BAD_LONG;
        }
        beginAct();
        if (member >= HORN && !asked.horned()) {
            return CAST_LONG;
        }
        switch (member) {
            case BURN:
                return asked.burn(n);
            case REACH:
                return asked.reach(n);
            case FLASH:
                return asked.flash(n);
            case TEND:
                return asked.tend(n);
            case RANK:
                return asked.rank();
            case HORN:
                return asked.horn(n);
            default:
                return asked.tone();
        }
    }

    public int trace(int i) {
        return within(i, 0, coast.written - 1) ? coast.entry(i) : BAD;
    }

    public long haul(int n) {
        if (!within(n, 1, MOST_MOVED)) {
            return BAD_LONG;
        }
        stored += n;
        return stored;
    }

    public int fill(int lamp, int n) {
        Lamp filled = lampAt(lamp);
        if (filled == null || !within(n, 1, MOST_MOVED)) {
            return BAD;
        }
        if (stored < n) {
            return LACK;
        }
        if (filled.tank + n > MOST_TANK) {
            return FULL;
        }
        stored -= n;
        filled.tank += n;
        return filled.tank;
    }

    public int light(int lamp, boolean on) {
        Lamp turned = lampAt(lamp);
        if (turned == null) {
            return BAD;
        }
        if (turned.lit == on) {
            return 0;
        }
        if (on && turned.tank == 0) {
            return LACK;
        }
        turned.lit = on;
        return 1;
    }

    public int night(int h) {
        if (!within(h, 1, MOST_HOURS)) {
            return BAD;
        }
        nights++;
        if (!anyLit()) {
            return 0;
        }
        beginAct();
        int wentOut = 0;
        for (int i = 0; i < lampCount; i++) {
            Lamp burning = lampAt(i);
            if (burning != null && burning.lit) {
                burning.drain(Math.max(burning.burn(h), 0));
                wentOut += burning.lit ? 0 : 1;
            }
        }
        return wentOut;
    }

    public int seen(int m) {
        if (!within(m, 0, MOST_MILES)) {
            return BAD;
        }
        if (!anyLit()) {
            return LACK;
        }
        beginAct();
        int farthest = LACK;
        int greatest = 0;
        for (int i = 0; i < lampCount; i++) {
            Lamp shining = lampAt(i);
            if (shining != null && shining.lit) {
                int reach = shining.reach(m);
                if (farthest == LACK || reach > greatest) {
                    farthest = i;
                    greatest = reach;
                }
            }
        }
        return farthest;
    }

    public int blow(int lamp, int n) {
        Lamp sounded = lampAt(lamp);
        if (sounded == null) {
            return BAD;
        }
        beginAct();
        if (!sounded.horned()) {
            return CAST;
        }
        latestBlown = sounded.horn(n);
        return 1;
    }

    public int blown() {
        return latestBlown;
    }

    public long told(int lamp, int what) {
        Lamp asked = lampAt(lamp);
        if (asked == null) {
            return BAD_LONG;
        }
        switch (what) {
            case 0:
                return asked.kind;
            case 1:
                return asked.height;
            case 2:
                return asked.tank;
            case 3:
                return asked.soot;
            case 4:
                return asked.lit ? 1 : 0;
            case 5:
                return asked.horned() ? 1 : 0;
            default:
                return BAD_LONG;
        }
    }

    public int count(int what) {
        switch (what) {
            case 0:
                return lampCount;
            case 1:
                return nights;
            case 2:
                return coast.written;
            case 3:
                return acts;
            default:
                return BAD;
        }
    }

    public long store() {
        return stored;
    }

    private static boolean within(int value, int least, int most) {
        return value >= least && value <= most;
    }

    private Lamp lampAt(int number) {
        return within(number, 0, lampCount - 1) && number < lamps.length ? lamps[number] : null;
    }

    private boolean anyLit() {
        for (int i = 0; i < lampCount; i++) {
            Lamp lamp = lampAt(i);
            if (lamp != null && lamp.lit) {
                return true;
            }
        }
        return false;
    }

    private void beginAct() {
        acts++;
        coast.wipe();
    }

    private Lamp made(int kind, int height) {
        switch (kind) {
            case OIL:
                return new Oil(coast, kind, height);
            case ROUND:
                return new Round(coast, kind, height);
            case TWIN:
                return new Twin(coast, kind, height);
            case DRUM:
                return new Drum(coast, kind, height);
            case SWING:
                return new Swing(coast, kind, height);
            case GAS:
                return new Gas(coast, kind, height);
            case FLARE:
                return new Flare(coast, kind, height);
            case BUOY:
                return new Buoy(coast, kind, height);
            default:
                return new Outer(coast, kind, height);
        }
    }

    /** What all lamps of one coast share: the dials that they read and the trace that they write. */
    private static final class Coast {
        final int[] dials;
        final int[] entries;
        int written;

        Coast() {
            dials = new int[DIALS];
            entries = new int[MOST_ENTRIES];
        }

        int dialed(int k) {
            return k >= 0 && k < dials.length ? dials[k] : 0;
        }

        void turn(int k, int v) {
            if (k >= 0 && k < dials.length) {
                dials[k] = v;
            }
        }

        int entry(int i) {
            return i >= 0 && i < entries.length ? entries[i] : BAD;
        }

        void wipe() {
            written = 0;
        }

        void begins(int kind, int member) {
            if (written >= 0 && written < entries.length) {
                entries[written] = 10 * kind + member;
                written++;
            }
        }
    }

    /**
     * The kind that all others come from. A kind overrides the members that the document gives it a
     * body of, and "ABOVE" is super; each body is written down, under its own kind, before all else.
     */
    private abstract static class Lamp {
        final Coast coast;
        final int kind;
        final int height;
        int tank;
        int soot;
        boolean lit;

        Lamp(Coast coast, int kind, int height) {
            this.coast = coast;
            this.kind = kind;
            this.height = height;
        }

        void drain(int burnt) {
            if (tank > burnt) {
                tank -= burnt;
            } else {
                tank = 0;
                lit = false;
            }
        }

        boolean horned() {
            return false;
        }

        int burn(int h) {
            coast.begins(LAMP, BURN);
            soot += h;
            return h * coast.dialed(0) + 1;
        }

        int reach(int m) {
            coast.begins(LAMP, REACH);
            return height / 10 + 30 - 3 * m;
        }

        int flash(int t) {
            coast.begins(LAMP, FLASH);
            return 100;
        }

        int tend(int n) {
            coast.begins(LAMP, TEND);
            soot = Math.max(soot - n, 0);
            return soot;
        }

        int rank() {
            coast.begins(LAMP, RANK);
            return height % 9;
        }

        /** The lent horn: it stands here because both horned branches use it; others are never asked. */
        int horn(int n) {
            coast.begins(LAMP, HORN);
            int toned = tone() * n;
            return toned + reach(0);
        }

        /** No body of the document, so not written down: each horned kind has one from OIL or FLARE. */
        int tone() {
            return 0;
        }
    }

    private static class Oil extends Lamp {
        Oil(Coast coast, int kind, int height) {
            super(coast, kind, height);
        }

        int burn(int h) {
            coast.begins(OIL, BURN);
            int above = super.burn(h);
            return above + soot / 50;
        }

        int rank() {
            coast.begins(OIL, RANK);
            return super.rank() + 1;
        }

        int tone() {
            coast.begins(OIL, TONE);
            return 7;
        }
    }

    private static class Round extends Oil {
        Round(Coast coast, int kind, int height) {
            super(coast, kind, height);
        }

        int reach(int m) {
            coast.begins(ROUND, REACH);
            return super.reach(m) + coast.dialed(2);
        }

        int tend(int n) {
            coast.begins(ROUND, TEND);
            super.tend(n);
            return super.tend(n / 2);
        }
    }

    private static class Twin extends Round {
        Twin(Coast coast, int kind, int height) {
            super(coast, kind, height);
        }

        boolean horned() {
            return true;
        }

        int burn(int h) {
            coast.begins(TWIN, BURN);
            int first = super.burn(h);
            return first + super.burn(h);
        }

        int reach(int m) {
            coast.begins(TWIN, REACH);
            int first = super.reach(m);
            return first + super.reach(m + 1) / 2;
        }

        int flash(int t) {
            coast.begins(TWIN, FLASH);
            return (t & 3) == 0 ? 0 : super.flash(t);
        }
    }

    private static class Drum extends Twin {
        Drum(Coast coast, int kind, int height) {
            super(coast, kind, height);
        }

        int reach(int m) {
            coast.begins(DRUM, REACH);
            return Math.max(super.reach(m), 20);
        }

        int tend(int n) {
            coast.begins(DRUM, TEND);
            return super.tend(n + coast.dialed(3));
        }

        int rank() {
            coast.begins(DRUM, RANK);
            return 2 * super.rank();
        }

        int tone() {
            coast.begins(DRUM, TONE);
            return super.tone() + coast.dialed(5);
        }
    }

    private static final class Swing extends Drum {
        Swing(Coast coast, int kind, int height) {
            super(coast, kind, height);
        }

        int burn(int h) {
            coast.begins(SWING, BURN);
            return super.burn(h) + h / 2;
        }

        int flash(int t) {
            coast.begins(SWING, FLASH);
            return super.flash(t / 3);
        }

        int horn(int n) {
            coast.begins(SWING, HORN);
            return tone() + n;
        }
    }

    private static class Gas extends Lamp {
        Gas(Coast coast, int kind, int height) {
            super(coast, kind, height);
        }

        int reach(int m) {
            coast.begins(GAS, REACH);
            return super.reach(m) - soot / 10;
        }
    }

    private static class Flare extends Gas {
        Flare(Coast coast, int kind, int height) {
            super(coast, kind, height);
        }

        boolean horned() {
            return true;
        }

        int burn(int h) {
            coast.begins(FLARE, BURN);
            return super.burn(h / 2);
        }

        int flash(int t) {
            coast.begins(FLARE, FLASH);
            return (t & 1) == 0 ? super.flash(t) : 0;
        }

        int rank() {
            coast.begins(FLARE, RANK);
            return super.rank() + soot % 5;
        }

        int tone() {
            coast.begins(FLARE, TONE);
            return 9;
        }
    }

    private static class Buoy extends Flare {
        Buoy(Coast coast, int kind, int height) {
            super(coast, kind, height);
        }

        int reach(int m) {
            coast.begins(BUOY, REACH);
            return super.reach(m) / 2;
        }

        int tend(int n) {
            coast.begins(BUOY, TEND);
            int d4 = coast.dialed(4);
            return d4 == 0 ? super.tend(n) : d4;
        }
    }

    private static final class Outer extends Buoy {
        Outer(Coast coast, int kind, int height) {
            super(coast, kind, height);
        }

        int burn(int h) {
            coast.begins(OUTER, BURN);
            return Math.max(super.burn(h) - coast.dialed(1), 0);
        }

        int flash(int t) {
            coast.begins(OUTER, FLASH);
            int first = super.flash(t);
            return first + super.flash(t + 1);
        }

        int rank() {
            coast.begins(OUTER, RANK);
            return super.rank() + tank % 3;
        }

        int tone() {
            coast.begins(OUTER, TONE);
            int above = super.tone();
            return above + rank();
        }
    }
}
