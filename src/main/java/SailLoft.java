import java.util.Arrays;

/** A sail loft: sails, the bolts they are laid on, the mast that bears them, and acts that can be undone. */
public final class SailLoft {
    public static final int NONE = -1;

    private static final int NO_EDGE = -10000;
    private static final int NO_PLAN = -2;

    private static final int MOST_BOLTS = 24;
    private static final int LEAST_WIDTH = 2;
    private static final int MOST_WIDTH = 20;
    private static final int MOST_LENGTH = 200;
    private static final int MOST_WORN = 100;

    private static final int MOST_SAILS = 10;
    private static final int MOST_X = 500;
    private static final int MOST_HEIGHT = 60;
    private static final int MOST_STAND = 200;
    private static final int MOST_PIECES = 40;
    private static final int MOST_LET_OUT = 50;
    private static final int MOST_PATCH_BREADTH = 20;
    private static final int MOST_PATCH_LENGTH = 100;
    private static final int MOST_WEIGHT = 1000000;
    private static final int MOST_LINES = 3;

    private static final int OPEN = 0;
    private static final int CUT = 1;
    private static final int TAKEN = 2;

    private static final int KIND_PANEL = 0;
    private static final int KIND_TAPERED = 1;
    private static final int KIND_PATCH = 2;
    private static final int KIND_OLD = 3;

    private static final int MOST_LOAD = 2000000000;
    private static final int MOST_WIND = 1000;

    private static final int MOST_PACKED = 8;
    private static final int MOST_UNDONE = 16;

    /** What lies on a bolt is told as this many times the sail, and the piece. */
    private static final int SAIL_STEP = 100;

    private final Bolt[] bolts = new Bolt[MOST_BOLTS];
    private int boltCount = 0;
    private final Sail[] sails = new Sail[MOST_SAILS];
    private int sailCount = 0;
    private final Spar spar = new Spar();
    private final Act[] acts = new Act[MOST_UNDONE];
    /** Where the next act goes: the acts stand in a ring, so that the latest push out the oldest. */
    private int nextAct = 0;
    private int keptActs = 0;
    private Packing packing = null;

    public SailLoft() {
    }

    // ---- bolts ----

    public int bolt(int width, int length, int grams) {
        if (boltCount >= MOST_BOLTS || !isWithin(width, LEAST_WIDTH, MOST_WIDTH)
                || !isWithin(length, 1, MOST_LENGTH) || !Grams.areTold(grams)) {
            return NONE;
        }
        int number = boltCount;
        addBolt(width, length, Grams.ofBits(grams), NONE);
        remember(new Act(Act.BOLT, number, 0, 0));
        return number;
    }

    public boolean row(int bolt, int n) {
        Bolt b = boltNumbered(bolt);
        if (b == null || !isWithin(n, 0, b.length) || b.covered > 0) {
            return false;
        }
        Act act = new Act(Act.ROW, bolt, 0, 0);
        act.wornBefore = b.row;
        b.row = n > 0 ? new byte[n] : null;
        remember(act);
        return true;
    }

    public boolean wear(int bolt, int k, int v) {
        Bolt b = boltNumbered(bolt);
        if (b == null || !isWithin(v, 0, MOST_WORN) || !b.tellsPlace(k) || b.covered > 0) {
            return false;
        }
        remember(new Act(Act.WEAR, bolt, k, b.wornAt(k)));
        b.putWorn(k, v);
        return true;
    }

    public int worn(int bolt, int k) {
        Bolt b = boltNumbered(bolt);
        return b == null || !b.hasPlace(k) ? NONE : b.wornAt(k);
    }

    public int left(int bolt) {
        Bolt b = boltNumbered(bolt);
        return b == null ? NONE : b.length - b.covered;
    }

    public int over(int bolt, int k) {
        Bolt b = boltNumbered(bolt);
        return b == null || !b.hasPlace(k) ? NONE : b.codeAt(k);
    }

    public int old(int bolt) {
        Bolt b = boltNumbered(bolt);
        return b == null ? NONE : b.from;
    }

    // ---- sails ----

    public int sail(int footLeft, int footRight, int headLeft, int headRight, int height) {
        if (sailCount >= MOST_SAILS || !isWithin(height, 1, MOST_HEIGHT)
                || !isWithin(footLeft, -MOST_X, MOST_X) || !isWithin(footRight, -MOST_X, MOST_X)
                || !isWithin(headLeft, -MOST_X, MOST_X) || !isWithin(headRight, -MOST_X, MOST_X)) {
            return NONE;
        }
        int number = sailCount;
        sails[number] = new Sail(new Side(footLeft, headLeft), new Side(footRight, headRight), height);
        sailCount++;
        remember(new Act(Act.SAIL, number, 0, 0));
        return number;
    }

    public boolean edge(int sail, int side, int n) {
        Sail s = sailInState(sail, OPEN);
        if (s == null || !isWithin(n, 0, s.height + 1)) {
            return false;
        }
        Side told = s.sideNumbered(side);
        if (told == null) {
            return false;
        }
        Act act = new Act(Act.EDGE, sail, side, 0);
        act.standsBefore = told.row;
        told.row = n > 0 ? new short[n] : null;
        remember(act);
        return true;
    }

    public boolean stand(int sail, int side, int y, int v) {
        Sail s = sailInState(sail, OPEN);
        if (s == null || !isWithin(v, -MOST_STAND, MOST_STAND)) {
            return false;
        }
        Side told = s.sideNumbered(side);
        if (told == null || !told.tellsHeight(y)) {
            return false;
        }
        Act act = new Act(Act.STAND, sail, side, told.standAt(y));
        act.place = y;
        told.putStand(y, v);
        remember(act);
        return true;
    }

    public int at(int sail, int side, int y) {
        Sail s = sailNumbered(sail);
        if (s == null || !isWithin(y, 0, s.height)) {
            return NO_EDGE;
        }
        Side told = s.sideNumbered(side);
        return told == null ? NO_EDGE : told.edgeAt(y, s.height);
    }

    public int cut(int sail, int w, int seam) {
        Sail s = sailInState(sail, OPEN);
        if (s == null || !isWithin(w, LEAST_WIDTH, MOST_WIDTH) || !isWithin(seam, 1, w - 1)) {
            return NONE;
        }
        if (s.panelsOfHeight(w - seam) > MOST_PIECES || s.edgesMeet()) {
            return NONE;
        }
        s.cutInto(w - seam, seam);
        remember(new Act(Act.CUT, sail, 0, 0));
        return s.panels;
    }

    public boolean narrow(int sail, int i, int v) {
        Sail s = sailInState(sail, CUT);
        if (s == null || !isWithin(i, 0, s.panels - 2) || !isWithin(v, 0, MOST_LET_OUT)) {
            return false;
        }
        Piece p = s.pieceNumbered(i);
        if (p == null) {
            return false;
        }
        remember(new Act(Act.NARROW, sail, i, p.letsOut));
        p.letsOut = v;
        return true;
    }

    public int patch(int sail, int y, int breadth, int length) {
        Sail s = sailInState(sail, CUT);
        if (s == null || s.pieceCount >= MOST_PIECES || !isWithin(y, 0, s.height - 1)
                || !isWithin(breadth, 1, MOST_PATCH_BREADTH) || !isWithin(length, 1, MOST_PATCH_LENGTH)) {
            return NONE;
        }
        int number = s.pieceCount;
        s.addPatch(y, breadth, length);
        remember(new Act(Act.PATCH, sail, number, 0));
        return number;
    }

    public int told(int sail, int what) {
        Sail s = sailNumbered(sail);
        if (s == null) {
            return NONE;
        }
        switch (what) {
            case 0: return s.state;
            case 1: return s.panels;
            case 2: return s.pieceCount - s.panels;
            case 3: return s.twiceBetween(0, s.height);
            case 4: return s.reef;
            case 5: return s.isSet ? 1 : 0;
            case 6: return weightOfAll(s);
            case 7: return s.lineCount;
            case 8: return s.height;
            default: return NONE;
        }
    }

    public int panel(int sail, int i, int what) {
        Piece p = pieceOf(sailNumbered(sail), i);
        if (p == null) {
            return NONE;
        }
        switch (what) {
            case 0: return kindOf(p);
            case 1: return p.lower;
            case 2: return p.upper;
            case 3: return p.length;
            case 4: return p.breadth;
            case 5: return p.twice;
            case 6: return p.bolt;
            case 7: return p.place;
            case 8: return weightOf(p);
            case 9: return p.letsOut;
            default: return NONE;
        }
    }

    public int full(int sail, int y) {
        Sail s = sailInState(sail, CUT);
        return s == null || !isWithin(y, 0, s.height) ? NONE : s.letOutUpTo(y);
    }

    // ---- laying ----

    public boolean lay(int sail, int i, int bolt, int place, int worn) {
        Piece p = pieceOf(sailInState(sail, CUT), i);
        Bolt b = boltNumbered(bolt);
        if (p == null || b == null || p.bolt != NONE || !isWithin(worn, 0, MOST_WORN)
                || !b.takes(p, place, worn)) {
            return false;
        }
        putDown(sail, i, bolt, place);
        remember(new Act(Act.LAY, sail, i, 0));
        return true;
    }

    public boolean lift(int sail, int i) {
        Piece p = pieceOf(sailInState(sail, CUT), i);
        if (p == null || p.bolt == NONE) {
            return false;
        }
        Act act = new Act(Act.LIFT, sail, i, p.bolt);
        act.place = p.place;
        pickUp(sail, i);
        remember(act);
        return true;
    }

    public int plan(int worn) {
        if (!isWithin(worn, 0, MOST_WORN)) {
            return NO_PLAN;
        }
        int[] laid = new int[countLoose()];
        int laidCount = 0;
        int stuck = NONE;
        for (int s = 0; s < sailCount && stuck == NONE; s++) {
            int pieces = piecesToLay(s);
            for (int i = 0; i < pieces && stuck == NONE; i++) {
                if (!isLoose(s, i)) {
                    continue;
                }
                if (laidCount < laid.length && layAtFirst(s, i, worn)) {
                    laid[laidCount] = codeOf(s, i);
                    laidCount++;
                } else {
                    stuck = codeOf(s, i);
                }
            }
        }
        if (laidCount > 0) {
            Act act = new Act(Act.PLAN, NONE, laidCount, 0);
            act.laid = laid;
            remember(act);
        }
        return stuck;
    }

    public int fewest(int sail, int worn) {
        Sail s = sailInState(sail, CUT);
        if (s == null || !isWithin(worn, 0, MOST_WORN) || s.countLoose() > MOST_PACKED) {
            return NONE;
        }
        if (packing == null) {
            packing = new Packing();
        }
        packing.begin();
        for (int i = 0; i < s.pieceCount; i++) {
            Piece p = s.pieceNumbered(i);
            if (p != null && p.bolt == NONE) {
                packing.addPiece(p);
            }
        }
        for (int b = 0; b < boltCount; b++) {
            Bolt bolt = boltNumbered(b);
            if (bolt != null && bolt.covered == 0 && bolt.isWornAtMost(worn)) {
                packing.offer(bolt);
            }
        }
        return packing.neededForAll();
    }

    public int take(int sail) {
        Sail s = sailInState(sail, CUT);
        if (s == null || s.countLoose() > 0 || s.pieceCount > MOST_BOLTS - boltCount) {
            return NONE;
        }
        for (int i = 0; i < s.pieceCount; i++) {
            addBoltOf(s.pieceNumbered(i), sail);
        }
        remember(new Act(Act.TAKE, sail, s.pieceCount, s.isSet ? 1 : 0));
        s.state = TAKEN;
        s.isSet = false;
        return s.pieceCount;
    }

    // ---- the mast and the wind ----

    public boolean mast(int k, int load) {
        if (!isWithin(k, 0, MOST_HEIGHT) || !isWithin(load, 0, MOST_LOAD)) {
            return false;
        }
        spar.loads[k] = load;
        return true;
    }

    public boolean wind(int y, int push) {
        if (!isWithin(y, 0, MOST_HEIGHT - 1) || !isWithin(push, 0, MOST_WIND)) {
            return false;
        }
        spar.winds[y] = push;
        return true;
    }

    public boolean set(int sail, boolean is) {
        Sail s = sailInState(sail, CUT);
        if (s == null || s.isSet == is) {
            return false;
        }
        remember(new Act(Act.SET, sail, 0, s.isSet ? 1 : 0));
        s.isSet = is;
        return true;
    }

    public boolean reef(int sail, int line) {
        Sail s = sailInState(sail, CUT);
        if (s == null || !isWithin(line, 0, s.height) || s.reef == line) {
            return false;
        }
        remember(new Act(Act.REEF, sail, 0, s.reef));
        s.reef = line;
        return true;
    }

    public int line(int sail, int y) {
        Sail s = sailNumbered(sail);
        if (s == null || s.state == TAKEN || !isWithin(y, 1, s.height) || !s.addLine(y)) {
            return NONE;
        }
        remember(new Act(Act.LINE, sail, 0, 0));
        return s.lineCount;
    }

    public long push(int k) {
        if (!isWithin(k, 0, MOST_HEIGHT)) {
            return NONE;
        }
        hoistAll();
        return spar.pushAt(k);
    }

    public int bears() {
        hoistAll();
        return spar.firstBreak();
    }

    public int least() {
        hoistAll();
        if (spar.firstBreak() == NONE) {
            return 0;
        }
        int taken = 0;
        for (int round = 0; round < MOST_LINES; round++) {
            for (int n = 0; n < sailCount; n++) {
                Sail s = sailNumbered(n);
                if (s != null && s.isSet && spar.reefOnce(s)) {
                    taken++;
                    if (spar.firstBreak() == NONE) {
                        return taken;
                    }
                }
            }
        }
        return NONE;
    }

    // ---- acts ----

    public boolean undo() {
        if (keptActs <= 0) {
            return false;
        }
        keptActs--;
        nextAct = nextAct > 0 ? nextAct - 1 : MOST_UNDONE - 1;
        Act act = nextAct < acts.length ? acts[nextAct] : null;
        if (act == null) {
            return false;
        }
        reverse(act);
        return true;
    }

    public int count(int what) {
        switch (what) {
            case 0: return boltCount;
            case 1: return sailCount;
            case 2: return keptActs;
            default: return NONE;
        }
    }

    private void remember(Act act) {
        if (isWithin(nextAct, 0, acts.length - 1)) {
            acts[nextAct] = act;
        }
        nextAct = (nextAct + 1) % MOST_UNDONE;
        keptActs = Math.min(keptActs + 1, MOST_UNDONE);
    }

    private void reverse(Act act) {
        switch (act.kind) {
            case Act.BOLT:
                dropBolts(1);
                break;
            case Act.SAIL:
                dropSail();
                break;
            case Act.ROW:
            case Act.WEAR:
                reverseOnBolt(act, boltNumbered(act.owner));
                break;
            case Act.LAY:
                pickUp(act.owner, act.index);
                break;
            case Act.LIFT:
                putDown(act.owner, act.index, act.before, act.place);
                break;
            case Act.PLAN:
                reversePlan(act);
                break;
            case Act.EDGE:
            case Act.STAND:
            case Act.CUT:
            case Act.NARROW:
            case Act.PATCH:
                reverseMaking(act, sailNumbered(act.owner));
                break;
            default:
                reverseSailing(act, sailNumbered(act.owner));
                break;
        }
    }

    private static void reverseOnBolt(Act act, Bolt b) {
        if (b == null) {
            return;
        }
        if (act.kind == Act.ROW) {
            b.row = act.wornBefore;
        } else {
            b.putWorn(act.index, act.before);
        }
    }

    private static void reverseMaking(Act act, Sail s) {
        if (s == null) {
            return;
        }
        Side told = s.sideNumbered(act.index);
        Piece p = s.pieceNumbered(act.index);
        if (act.kind == Act.EDGE && told != null) {
            told.row = act.standsBefore;
        } else if (act.kind == Act.STAND && told != null) {
            told.putStand(act.place, act.before);
        } else if (act.kind == Act.CUT) {
            s.openAgain();
        } else if (act.kind == Act.NARROW && p != null) {
            p.letsOut = act.before;
        } else if (act.kind == Act.PATCH) {
            s.dropPatch();
        }
    }

    private void reverseSailing(Act act, Sail s) {
        if (s == null) {
            return;
        }
        if (act.kind == Act.SET) {
            s.isSet = act.before == 1;
        } else if (act.kind == Act.REEF) {
            s.reef = act.before;
        } else if (act.kind == Act.LINE) {
            s.dropLine();
        } else if (act.kind == Act.TAKE) {
            dropBolts(act.index);
            s.state = CUT;
            s.isSet = act.before == 1;
        }
    }

    private void reversePlan(Act act) {
        if (act.laid == null) {
            return;
        }
        for (int n = 0; n < act.index && n < act.laid.length; n++) {
            pickUp(act.laid[n] / SAIL_STEP, act.laid[n] % SAIL_STEP);
        }
    }

    // ---- what the calls share ----

    private static boolean isWithin(int value, int least, int most) {
        return value >= least && value <= most;
    }

    private static int codeOf(int sail, int i) {
        return SAIL_STEP * sail + i;
    }

    private Bolt boltNumbered(int number) {
        return isWithin(number, 0, Math.min(boltCount, bolts.length) - 1) ? bolts[number] : null;
    }

    private Sail sailNumbered(int number) {
        return isWithin(number, 0, Math.min(sailCount, sails.length) - 1) ? sails[number] : null;
    }

    private Sail sailInState(int number, int state) {
        Sail s = sailNumbered(number);
        return s != null && s.state == state ? s : null;
    }

    private static Piece pieceOf(Sail s, int i) {
        return s == null ? null : s.pieceNumbered(i);
    }

    // A bolt that was undone leaves its place in the row to the next one: bolts are the largest things made here.
    private void addBolt(int width, int length, float grams, int from) {
        if (boltCount >= bolts.length) {
            return;
        }
        Bolt b = bolts[boltCount];
        if (b == null) {
            b = new Bolt();
            bolts[boltCount] = b;
        }
        b.begin(width, length, grams, from);
        boltCount++;
    }

    private void addBoltOf(Piece p, int sail) {
        if (p == null) {
            return;
        }
        Bolt under = boltNumbered(p.bolt);
        float grams = under == null ? 0f : under.grams;
        addBolt(Math.max(p.breadth, LEAST_WIDTH), Math.min(p.length, MOST_LENGTH), grams, sail);
    }

    private void dropBolts(int n) {
        boltCount = Math.max(0, boltCount - n);
    }

    private void dropSail() {
        if (sailCount > 0) {
            sailCount--;
            sails[sailCount] = null;
        }
    }

    private int kindOf(Piece p) {
        if (p.isPatch) {
            return KIND_PATCH;
        }
        Bolt b = boltNumbered(p.bolt);
        if (b != null && b.from != NONE) {
            return KIND_OLD;
        }
        return p.letsOut > 0 ? KIND_TAPERED : KIND_PANEL;
    }

    private int weightOf(Piece p) {
        Bolt b = boltNumbered(p.bolt);
        if (b == null) {
            return 0;
        }
        float weight = b.grams * (float) p.twice / 2f;
        return Math.min((int) weight, MOST_WEIGHT);
    }

    private int weightOfAll(Sail s) {
        int sum = 0;
        for (int i = 0; i < s.pieceCount; i++) {
            Piece p = s.pieceNumbered(i);
            if (p != null) {
                sum += weightOf(p);
            }
        }
        return sum;
    }

    private void putDown(int sail, int i, int bolt, int place) {
        Piece p = pieceOf(sailNumbered(sail), i);
        Bolt b = boltNumbered(bolt);
        if (p == null || b == null) {
            return;
        }
        b.cover(place, p.length, codeOf(sail, i));
        p.bolt = bolt;
        p.place = place;
    }

    private void pickUp(int sail, int i) {
        Piece p = pieceOf(sailNumbered(sail), i);
        if (p == null) {
            return;
        }
        Bolt b = boltNumbered(p.bolt);
        if (b == null) {
            return;
        }
        b.uncover(p.place, p.length);
        p.bolt = NONE;
        p.place = NONE;
    }

    private int piecesToLay(int sail) {
        Sail s = sailInState(sail, CUT);
        return s == null ? 0 : s.pieceCount;
    }

    private boolean isLoose(int sail, int i) {
        Piece p = pieceOf(sailInState(sail, CUT), i);
        return p != null && p.bolt == NONE;
    }

    private int countLoose() {
        int loose = 0;
        for (int n = 0; n < sailCount; n++) {
            Sail s = sailInState(n, CUT);
            if (s != null) {
                loose += s.countLoose();
            }
        }
        return loose;
    }

    private boolean layAtFirst(int sail, int i, int worn) {
        Piece p = pieceOf(sailNumbered(sail), i);
        if (p == null) {
            return false;
        }
        for (int n = 0; n < boltCount; n++) {
            Bolt b = boltNumbered(n);
            int place = b == null ? NONE : b.firstPlaceFor(p, worn);
            if (place != NONE) {
                putDown(sail, i, n, place);
                return true;
            }
        }
        return false;
    }

    private void hoistAll() {
        spar.clear();
        for (int n = 0; n < sailCount; n++) {
            Sail s = sailNumbered(n);
            if (s != null && s.isSet) {
                spar.hoist(s);
            }
        }
    }

    // ---- the classes inside ----

    /** A float of 0 to 1,000, told by its bits; the library's own way from bits to floats is not allowed here. */
    private static final class Grams {
        private static final int BITS_OF_1000 = 0x447A0000;
        private static final int BITS_OF_MINUS_0 = 0x80000000;
        private static final int FRACTION_BITS = 23;
        private static final int SMALLEST_POWER = 149;

        private Grams() {
        }

        // Floats that aren't negative are ordered as their bits are; minus 0 is equal to 0.
        static boolean areTold(int bits) {
            return bits == BITS_OF_MINUS_0 || isWithin(bits, 0, BITS_OF_1000);
        }

        static float ofBits(int bits) {
            int fraction = bits & ((1 << FRACTION_BITS) - 1);
            int exponent = (bits >> FRACTION_BITS) & 255;
            float value = (float) (exponent == 0 ? fraction : fraction + (1 << FRACTION_BITS));
            // Halving is exact all the way down: what is left is always a multiple of the smallest float.
            int halvings = SMALLEST_POWER + 1 - Math.max(exponent, 1);
            for (int n = 0; n < halvings; n++) {
                value = value / 2f;
            }
            return value;
        }
    }

    /** A bolt; the row is null where it is missing. */
    private static final class Bolt {
        int width = 0;
        int length = 0;
        float grams = 0f;
        int from = NONE;
        byte[] row = null;
        int covered = 0;
        final short[] codes = new short[MOST_LENGTH];

        void begin(int newWidth, int newLength, float newGrams, int newFrom) {
            width = newWidth;
            length = newLength;
            grams = newGrams;
            from = newFrom;
            row = null;
            covered = 0;
            Arrays.fill(codes, (short) NONE);
        }

        boolean hasPlace(int k) {
            return k >= 0 && k < length && k < codes.length;
        }

        boolean tellsPlace(int k) {
            return row != null && k >= 0 && k < row.length;
        }

        int wornAt(int k) {
            return tellsPlace(k) ? row[k] : 0;
        }

        void putWorn(int k, int v) {
            if (tellsPlace(k)) {
                row[k] = (byte) v;
            }
        }

        int codeAt(int k) {
            return hasPlace(k) ? codes[k] : NONE;
        }

        boolean isFree(int k, int worn) {
            return hasPlace(k) && codes[k] == NONE && wornAt(k) <= worn;
        }

        boolean isWornAtMost(int worn) {
            for (int k = 0; k < length; k++) {
                if (wornAt(k) > worn) {
                    return false;
                }
            }
            return true;
        }

        boolean takes(Piece p, int place, int worn) {
            if (p.breadth > width || place < 0 || place > length - p.length) {
                return false;
            }
            for (int k = place; k < place + p.length; k++) {
                if (!isFree(k, worn)) {
                    return false;
                }
            }
            return true;
        }

        int firstPlaceFor(Piece p, int worn) {
            if (p.breadth > width || p.length > length - covered) {
                return NONE;
            }
            int run = 0;
            for (int k = 0; k < length; k++) {
                run = isFree(k, worn) ? run + 1 : 0;
                if (run == p.length) {
                    return k - run + 1;
                }
            }
            return NONE;
        }

        void cover(int place, int n, int code) {
            fill(place, n, code);
            covered += n;
        }

        void uncover(int place, int n) {
            fill(place, n, NONE);
            covered -= n;
        }

        private void fill(int place, int n, int code) {
            for (int k = place; k < place + n; k++) {
                if (hasPlace(k)) {
                    codes[k] = (short) code;
                }
            }
        }
    }

    /** One side of a sail; the row is null where it is missing. */
    private static final class Side {
        final int foot;
        final int head;
        short[] row = null;

        Side(int foot, int head) {
            this.foot = foot;
            this.head = head;
        }

        boolean tellsHeight(int y) {
            return row != null && y >= 0 && y < row.length;
        }

        int standAt(int y) {
            return tellsHeight(y) ? row[y] : 0;
        }

        void putStand(int y, int v) {
            if (tellsHeight(y)) {
                row[y] = (short) v;
            }
        }

        int edgeAt(int y, int height) {
            int slant = height > 0 ? (head - foot) * y / height : 0;
            return foot + slant + standAt(y);
        }
    }

    /** A PANEL or a PATCH of a sail. */
    private static final class Piece {
        final boolean isPatch;
        final int lower;
        final int upper;
        final int length;
        final int breadth;
        final int twice;
        int letsOut = 0;
        int bolt = NONE;
        int place = NONE;

        Piece(boolean isPatch, int lower, int upper, int length, int breadth, int twice) {
            this.isPatch = isPatch;
            this.lower = lower;
            this.upper = upper;
            this.length = length;
            this.breadth = breadth;
            this.twice = twice;
        }
    }

    /** A sail; its pieces and strips are null till it is cut. */
    private static final class Sail {
        final Side left;
        final Side right;
        final int height;
        int state = OPEN;
        Piece[] pieces = null;
        int panels = 0;
        int pieceCount = 0;
        /** TWICE the area of each strip: the edges stay as they are once it is cut. */
        int[] strips = null;
        int reef = 0;
        boolean isSet = false;
        final int[] lines = new int[MOST_LINES];
        int lineCount = 0;
        /** The reef that least() tries; it means nothing between calls. */
        int triedReef = 0;

        Sail(Side left, Side right, int height) {
            this.left = left;
            this.right = right;
            this.height = height;
        }

        Side sideNumbered(int side) {
            return side == 0 ? left : side == 1 ? right : null;
        }

        Piece pieceNumbered(int i) {
            return pieces != null && i >= 0 && i < pieceCount && i < pieces.length ? pieces[i] : null;
        }

        int breadthAt(int y) {
            return right.edgeAt(y, height) - left.edgeAt(y, height);
        }

        boolean edgesMeet() {
            for (int y = 0; y <= height; y++) {
                if (breadthAt(y) <= 0) {
                    return true;
                }
            }
            return false;
        }

        int twiceBetween(int lower, int upper) {
            int sum = 0;
            for (int y = lower; y < upper; y++) {
                sum += breadthAt(y) + breadthAt(y + 1);
            }
            return sum;
        }

        int lengthBetween(int lower, int upper) {
            int most = right.edgeAt(lower, height);
            int least = left.edgeAt(lower, height);
            for (int y = lower + 1; y <= upper; y++) {
                most = Math.max(most, right.edgeAt(y, height));
                least = Math.min(least, left.edgeAt(y, height));
            }
            return most - least;
        }

        int panelsOfHeight(int h) {
            return h > 0 ? (height + h - 1) / h : 0;
        }

        void cutInto(int h, int seam) {
            pieces = new Piece[MOST_PIECES];
            panels = Math.min(panelsOfHeight(h), MOST_PIECES);
            pieceCount = panels;
            for (int i = 0; i < panels && i < pieces.length; i++) {
                int lower = i * h;
                int upper = Math.min(lower + h, height);
                pieces[i] = new Piece(false, lower, upper, lengthBetween(lower, upper),
                        upper - lower + seam, twiceBetween(lower, upper));
            }
            strips = new int[height > 0 ? height : 0];
            for (int y = 0; y < strips.length; y++) {
                strips[y] = twiceBetween(y, y + 1);
            }
            state = CUT;
        }

        void openAgain() {
            pieces = null;
            panels = 0;
            pieceCount = 0;
            strips = null;
            state = OPEN;
        }

        void addPatch(int y, int breadth, int length) {
            if (pieces != null && pieceCount >= 0 && pieceCount < pieces.length) {
                pieces[pieceCount] = new Piece(true, y, y + 1, length, breadth, 2 * breadth * length);
                pieceCount++;
            }
        }

        void dropPatch() {
            if (pieceCount > panels) {
                pieceCount--;
            }
        }

        int letOutUpTo(int y) {
            int sum = 0;
            for (int i = 0; i < panels; i++) {
                Piece p = pieceNumbered(i);
                if (p != null && p.upper <= y) {
                    sum += p.letsOut;
                }
            }
            return sum;
        }

        int countLoose() {
            int loose = 0;
            for (int i = 0; i < pieceCount; i++) {
                Piece p = pieceNumbered(i);
                if (p != null && p.bolt == NONE) {
                    loose++;
                }
            }
            return loose;
        }

        boolean addLine(int y) {
            if (lineCount < 0 || lineCount >= lines.length || y <= lastLine()) {
                return false;
            }
            lines[lineCount] = y;
            lineCount++;
            return true;
        }

        private int lastLine() {
            int last = lineCount - 1;
            return last >= 0 && last < lines.length ? lines[last] : 0;
        }

        void dropLine() {
            if (lineCount > 0) {
                lineCount--;
            }
        }

        int firstLineAbove(int y) {
            for (int n = 0; n < lineCount && n < lines.length; n++) {
                if (lines[n] > y) {
                    return lines[n];
                }
            }
            return NONE;
        }
    }

    /** The mast with its loads, the wind, and what the wind does to each strip of the sails that are hoisted. */
    private static final class Spar {
        final int[] loads = new int[MOST_HEIGHT + 1];
        final int[] winds = new int[MOST_HEIGHT];
        final long[] forces = new long[MOST_HEIGHT];

        Spar() {
            Arrays.fill(loads, MOST_LOAD);
        }

        void clear() {
            Arrays.fill(forces, 0L);
        }

        void hoist(Sail s) {
            s.triedReef = s.reef;
            addStrips(s, s.reef, s.height, 1);
        }

        /** Takes a hoisted sail's next reef; false if it has none. */
        boolean reefOnce(Sail s) {
            int next = s.firstLineAbove(s.triedReef);
            if (next == NONE) {
                return false;
            }
            addStrips(s, s.triedReef, next, -1);
            s.triedReef = next;
            return true;
        }

        private void addStrips(Sail s, int lower, int upper, int sign) {
            if (s.strips == null || lower < 0) {
                return;
            }
            int end = Math.min(Math.min(upper, s.strips.length), Math.min(winds.length, forces.length));
            for (int y = lower; y < end; y++) {
                forces[y] += (long) sign * s.strips[y] * winds[y];
            }
        }

        private long forceAt(int y) {
            return y >= 0 && y < forces.length ? forces[y] : 0L;
        }

        long pushAt(int k) {
            return forceAt(k - 1) + forceAt(k);
        }

        int firstBreak() {
            for (int k = 0; k < loads.length; k++) {
                if (pushAt(k) > 4L * loads[k]) {
                    return k;
                }
            }
            return NONE;
        }
    }

    /** The fewest bolts for each set of a few pieces (a set by its bits), bettered bolt by bolt. */
    private static final class Packing {
        private static final int SETS = 1 << MOST_PACKED;
        private static final int TOO_MANY = MOST_BOLTS + 1;

        private final int[] lengths = new int[SETS];
        private final int[] breadths = new int[SETS];
        private final int[] needed = new int[SETS];
        private int sets = 1;

        void begin() {
            sets = 1;
            lengths[0] = 0;
            breadths[0] = 0;
            needed[0] = 0;
        }

        void addPiece(Piece p) {
            if (sets < 1 || sets > SETS / 2) {
                return;
            }
            for (int without = 0; without < sets; without++) {
                int with = without + sets;
                lengths[with] = lengths[without] + p.length;
                breadths[with] = Math.max(breadths[without], p.breadth);
                needed[with] = TOO_MANY;
            }
            sets = 2 * sets;
        }

        // From the largest set down, so that what is left of a set was packed without this bolt.
        void offer(Bolt bolt) {
            for (int set = Math.min(sets, SETS) - 1; set > 0; set--) {
                if (fits(bolt, set)) {
                    needed[set] = 1;
                } else if (needed[set] > 2) {
                    // What needs two bolts could be bettered only by one that takes all of it.
                    betterBy(bolt, set);
                }
            }
        }

        private boolean fits(Bolt bolt, int set) {
            return lengths[set] <= bolt.length && breadths[set] <= bolt.width;
        }

        private void betterBy(Bolt bolt, int set) {
            int best = needed[set];
            for (int part = set; part > 0; part = (part - 1) & set) {
                if (fits(bolt, part)) {
                    best = Math.min(best, needed[set - part] + 1);
                }
            }
            needed[set] = best;
        }

        int neededForAll() {
            int all = Math.min(sets, SETS) - 1;
            return all < 0 || needed[all] >= TOO_MANY ? NONE : needed[all];
        }
    }

    /** One act, with what it takes to undo it. */
    private static final class Act {
        static final int BOLT = 0;
        static final int ROW = 1;
        static final int WEAR = 2;
        static final int SAIL = 3;
        static final int EDGE = 4;
        static final int STAND = 5;
        static final int CUT = 6;
        static final int NARROW = 7;
        static final int PATCH = 8;
        static final int LAY = 9;
        static final int LIFT = 10;
        static final int PLAN = 11;
        static final int SET = 12;
        static final int REEF = 13;
        static final int LINE = 14;
        static final int TAKE = 15;

        final int kind;
        /** The bolt of a bolt's act, else the sail. */
        final int owner;
        /** The place, side or piece; of TAKE and PLAN how many. */
        final int index;
        /** What stood there; of LIFT the bolt. */
        final int before;
        /** Of LIFT the place, of STAND the height. */
        int place = 0;
        byte[] wornBefore = null;
        short[] standsBefore = null;
        int[] laid = null;

        Act(int kind, int owner, int index, int before) {
            this.kind = kind;
            this.owner = owner;
            this.index = index;
            this.before = before;
        }
    }
}
