/** Lofts that the tests of boundary cases begin with. */
final class Lofts {
    private static final int ONE = Check.ONE;

    private Lofts() {
    }

    static void empty(SailLoft x) {
    }

    /**
     * Four bolts: 0 with a ROW of 20, panel 0 of sail 0 lies on it from 20 to 29; 1 with a ROW of 10, nothing on it;
     * 2 without a ROW, the taken panel on it; 3 came from sail 2. Three sails: 0 CUT (2 panels and a patch), 1 OPEN,
     * 2 TAKEN. Height 3 breaks. More than 16 acts.
     */
    static void mixed(SailLoft x) {
        x.bolt(5, 30, ONE);
        x.row(0, 20);
        x.wear(0, 12, 40);
        x.bolt(5, 25, ONE);
        x.row(1, 10);
        x.wear(1, 9, 60);
        x.bolt(4, 200, Check.bits(2.5f));
        x.sail(0, 10, 0, 10, 8);
        x.cut(0, 5, 1);
        x.patch(0, 3, 2, 3);
        x.narrow(0, 0, 5);
        x.lay(0, 0, 0, 20, 0);
        x.line(0, 2);
        x.set(0, true);
        x.reef(0, 1);
        openSail(x);
        x.sail(0, 4, 0, 4, 3);
        x.cut(2, 4, 1);
        x.lay(2, 0, 2, 0, 0);
        x.take(2);
        for (int y = 0; y < 8; y++) {
            x.wind(y, y + 1);
        }
        x.mast(3, 34);
        x.mast(5, 55);
    }

    private static void openSail(SailLoft x) {
        x.sail(-3, 3, -3, 3, 6);
        x.edge(1, 0, 7);
        x.stand(1, 0, 6, -2);
        x.edge(1, 1, 3);
        x.stand(1, 1, 2, 7);
        x.line(1, 3);
    }

    /**
     * 15 acts, so that one more can come without an older one being lost: bolt 0 with a ROW of 20, bolt 1 with panel 0
     * on it; sail 0 CUT (3 panels, a patch), SET and reefed; sail 1 OPEN.
     */
    static void few(SailLoft x) {
        x.bolt(5, 30, ONE);
        x.row(0, 20);
        x.wear(0, 12, 40);
        x.bolt(5, 30, ONE);
        x.sail(0, 10, 0, 10, 12);
        x.cut(0, 5, 1);
        x.patch(0, 3, 2, 3);
        x.narrow(0, 0, 5);
        x.lay(0, 0, 1, 5, 0);
        x.line(0, 2);
        x.set(0, true);
        x.reef(0, 1);
        x.sail(-3, 3, -3, 3, 6);
        x.edge(1, 0, 7);
        x.stand(1, 0, 6, -2);
        x.wind(4, 7);
        x.mast(4, 34);
    }

    /** 8 acts: a sail of two panels and a patch, all laid on two bolts of different cloth, and SET. */
    static void laid(SailLoft x) {
        x.sail(0, 10, 0, 10, 8);
        x.cut(0, 5, 1);
        x.patch(0, 0, 1, 3);
        x.bolt(5, 20, ONE);
        x.bolt(5, 20, Check.bits(2f));
        x.lay(0, 0, 1, 10, 0);
        x.plan(0);
        x.set(0, true);
        x.wind(4, 7);
        x.mast(4, 34);
    }

    /** All 24 bolts, each 2 wide and 5 long. */
    static void allBolts(SailLoft x) {
        for (int n = 0; n < 24; n++) {
            x.bolt(2, 5, ONE);
        }
    }

    /** All 10 sails, each 1 high and 3 broad, OPEN. */
    static void allSails(SailLoft x) {
        for (int n = 0; n < 10; n++) {
            x.sail(0, 3, 0, 3, 1);
        }
    }

    /** One sail, CUT into 40 panels, each 5 long and 2 broad. */
    static void allPanels(SailLoft x) {
        x.sail(0, 5, 0, 5, 40);
        x.cut(0, 2, 1);
    }

    /** One sail, one panel 10 long and h + 1 broad (h at most 19). */
    static Check.Scene onePanel(int h) {
        return x -> {
            x.sail(0, 10, 0, 10, h);
            x.cut(0, h + 1, 1);
        };
    }

    /** One sail of height h, CUT into panels 10 long, of 4 heights and a seam of 1. */
    static Check.Scene square(int h) {
        return x -> {
            x.sail(0, 10, 0, 10, h);
            x.cut(0, 5, 1);
        };
    }

    /** One OPEN sail of height h, 10 broad. */
    static Check.Scene open(int h) {
        return x -> x.sail(0, 10, 0, 10, h);
    }
}
