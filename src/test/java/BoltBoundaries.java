/** The boundary cases of promises 1 to 5, 18, 19 and 31, and of the term BOLTS. */
public final class BoltBoundaries extends Check {

    // ---- promise 1 ----

    private static void newObject() {
        for (int what = 0; what <= 2; what++) {
            int w = what;
            answers("new, count " + w, Lofts::empty, x -> x.count(w), 0);
        }
        newHasNoBolt();
        newHasNoSail();
        newMast();
        refused("new, undo", Lofts::empty, x -> bit(x.undo()), 0);
        refused("new, plan", Lofts::empty, x -> x.plan(0), -1);
        answers("new, the first bolt", Lofts::empty, x -> x.bolt(2, 1, 0), 0);
        answers("new, the first sail", Lofts::empty, x -> x.sail(0, 0, 0, 0, 1), 0);
    }

    private static void newHasNoBolt() {
        refused("new, row", Lofts::empty, x -> bit(x.row(0, 0)), 0);
        refused("new, wear", Lofts::empty, x -> bit(x.wear(0, 0, 0)), 0);
        answers("new, worn", Lofts::empty, x -> x.worn(0, 0), -1);
        answers("new, left", Lofts::empty, x -> x.left(0), -1);
        answers("new, over", Lofts::empty, x -> x.over(0, 0), -1);
        answers("new, old", Lofts::empty, x -> x.old(0), -1);
    }

    private static void newHasNoSail() {
        refused("new, edge", Lofts::empty, x -> bit(x.edge(0, 0, 0)), 0);
        refused("new, stand", Lofts::empty, x -> bit(x.stand(0, 0, 0, 0)), 0);
        refused("new, cut", Lofts::empty, x -> x.cut(0, 2, 1), -1);
        refused("new, narrow", Lofts::empty, x -> bit(x.narrow(0, 0, 0)), 0);
        refused("new, patch", Lofts::empty, x -> x.patch(0, 0, 1, 1), -1);
        refused("new, lay", Lofts::empty, x -> bit(x.lay(0, 0, 0, 0, 0)), 0);
        refused("new, lift", Lofts::empty, x -> bit(x.lift(0, 0)), 0);
        refused("new, set", Lofts::empty, x -> bit(x.set(0, true)), 0);
        refused("new, reef", Lofts::empty, x -> bit(x.reef(0, 1)), 0);
        refused("new, line", Lofts::empty, x -> x.line(0, 1), -1);
        refused("new, take", Lofts::empty, x -> x.take(0), -1);
        answers("new, at", Lofts::empty, x -> x.at(0, 0, 0), -10000);
        answers("new, told", Lofts::empty, x -> x.told(0, 0), -1);
        answers("new, panel", Lofts::empty, x -> x.panel(0, 0, 0), -1);
        answers("new, full", Lofts::empty, x -> x.full(0, 0), -1);
        answers("new, fewest", Lofts::empty, x -> x.fewest(0, 0), -1);
    }

    private static void newMast() {
        for (int k = 0; k <= 60; k++) {
            int h = k;
            answers("new, push " + h, Lofts::empty, x -> x.push(h), 0);
        }
        answers("new, bears", Lofts::empty, x -> x.bears(), -1);
        answers("new, least", Lofts::empty, x -> x.least(), 0);
        // At first every LOAD is 2,000,000,000: nothing that can be SET breaks it.
        Scene storm = x -> {
            for (int s = 0; s < 10; s++) {
                x.sail(-500, 500, -500, 500, 60);
                x.cut(s, 20, 1);
                x.set(s, true);
            }
            for (int y = 0; y < 60; y++) {
                x.wind(y, 1000);
            }
        };
        answers("new, bears a storm", storm, x -> x.bears(), -1);
        answers("new, the push of a storm", storm, x -> x.push(30), 40000000L);
    }

    // ---- promise 2 ----

    private static void bolt() {
        range("bolt, width", Lofts::empty, (x, v) -> x.bolt(v, 5, ONE), 2, 20, 0, -1);
        range("bolt, length", Lofts::empty, (x, v) -> x.bolt(5, v, ONE), 1, 200, 0, -1);
        range("bolt among others, width", Lofts::mixed, (x, v) -> x.bolt(v, 5, ONE), 2, 20, 4, -1);
        range("bolt among others, length", Lofts::mixed, (x, v) -> x.bolt(5, v, ONE), 1, 200, 4, -1);
        gramsTaken();
        gramsRefused();
        widthOfBolt();
        lengthOfBolt();
        fullOfBolts();
    }

    private static void gramsTaken() {
        int[] good = {0, 1, 0x007FFFFF, 0x00800000, ONE, bits(999.99994f), bits(1000f), bits(-0f)};
        for (int grams : good) {
            answers("bolt, grams " + Integer.toHexString(grams), Lofts::mixed, x -> x.bolt(2, 1, grams), 4);
        }
        // TWICE the area is 20: what lies there weighs ten times its GRAMS.
        float[] grams = {0f, -0f, Float.MIN_VALUE, Float.MIN_NORMAL, 0.099999f, 0.1f, 1f, 999.99994f, 1000f};
        int[] weights = {0, 0, 0, 0, 0, 1, 10, 9999, 10000};
        for (int n = 0; n < grams.length; n++) {
            int bits = bits(grams[n]);
            due("grams " + grams[n] + ", weight", weightOn(bits), weights[n]);
        }
        for (int exponent = 0; exponent < 136; exponent++) {
            int bits = exponent << 23 | 0x2AAAAB;
            int want = (int) (Float.intBitsToFloat(bits) * 20f / 2f);
            due("grams " + Float.intBitsToFloat(bits) + ", weight", weightOn(bits), want);
        }
    }

    private static int weightOn(int grams) {
        SailLoft x = made(Lofts.onePanel(1));
        x.bolt(2, 10, grams);
        x.lay(0, 0, 0, 0, 0);
        return x.panel(0, 0, 8);
    }

    private static void gramsRefused() {
        int[] bad = {bits(1000f) + 1, bits(1001f), bits(Float.MAX_VALUE), bits(Float.POSITIVE_INFINITY),
            bits(-Float.MIN_VALUE), bits(-1f), bits(-1000f), bits(-Float.MAX_VALUE), bits(Float.NEGATIVE_INFINITY),
            0x7F800001, 0x7FC00000, 0x7FFFFFFF, 0xFF800001, 0xFFC00000, 0xFFFFFFFF};
        for (int grams : bad) {
            refused("bolt, grams " + Integer.toHexString(grams), Lofts::mixed, x -> x.bolt(2, 1, grams), -1);
        }
    }

    private static void widthOfBolt() {
        for (int width = 2; width <= 20; width++) {
            SailLoft x = made(Lofts.onePanel(width - 1));
            if (width > 2) {
                x.bolt(width - 1, 200, ONE);
                due("a bolt of a width less than " + width, x.lay(0, 0, 0, 0, 0), false);
                x.undo();
            }
            x.bolt(width, 200, ONE);
            due("a bolt of the width " + width, x.lay(0, 0, 0, 0, 0), true);
        }
    }

    private static void lengthOfBolt() {
        for (int length : new int[] {1, 2, 199, 200}) {
            Scene scene = x -> x.bolt(2, length, ONE);
            answers("left of " + length, scene, x -> x.left(0), length);
            answers("the last place of " + length, scene, x -> x.worn(0, length - 1), 0);
            answers("no place behind the last of " + length, scene, x -> x.worn(0, length), -1);
        }
    }

    private static void fullOfBolts() {
        SailLoft x = new SailLoft();
        for (int n = 0; n < 24; n++) {
            due("bolt " + n, x.bolt(2, 5, ONE), n);
            due("bolts then", x.count(0), n + 1);
        }
        refused("a bolt behind the 24th", Lofts::allBolts, y -> y.bolt(2, 5, ONE), -1);
        refused("a wrong bolt behind the 24th", Lofts::allBolts, y -> y.bolt(1, 5, ONE), -1);
        due("undo of the 24th", x.undo(), true);
        due("the 24th again", x.bolt(20, 200, 0), 23);
        due("its length", x.left(23), 200);
        due("full again", x.bolt(2, 5, ONE), -1);
        Scene taken = y -> {
            y.sail(0, 5, 0, 5, 1);
            y.cut(0, 2, 1);
            for (int n = 0; n < 23; n++) {
                y.bolt(2, 5, ONE);
            }
            y.lay(0, 0, 0, 0, 0);
            y.take(0);
        };
        refused("24 with an old one", taken, y -> y.bolt(2, 5, ONE), -1);
    }

    // ---- promise 3 ----

    private static void row() {
        range("row, places", Lofts::mixed, (x, v) -> bit(x.row(1, v)), 0, 25, 1, 0);
        range("row, places of an old bolt", Lofts::mixed, (x, v) -> bit(x.row(3, v)), 0, 4, 1, 0);
        range("row, places of a bolt of 1", x -> x.bolt(2, 1, ONE), (x, v) -> bit(x.row(0, v)), 0, 1, 1, 0);
        range("row, places of a bolt of 200", x -> x.bolt(2, 200, ONE), (x, v) -> bit(x.row(0, v)), 0, 200, 1, 0);
        noSuch("row, bolt", Lofts::mixed, (x, v) -> bit(x.row(v, 1)), 3, 0);
        noSuch("row 0, bolt", Lofts::mixed, (x, v) -> bit(x.row(v, 0)), 3, 0);
        refused("row where something lies", Lofts::mixed, (x, v) -> bit(x.row(0, v)), 0, -1, 0, 1, 20, 30, 31);
        refused("row where a taken sail lies", Lofts::mixed, (x, v) -> bit(x.row(2, v)), 0, 0, 1, 200);
        rowsAreZero();
        rowWithOnePlaceCovered();
    }

    private static void rowsAreZero() {
        SailLoft x = made(Lofts::mixed);
        due("worn ahead of a new ROW", x.worn(1, 9), 60);
        due("row of the same length", x.row(1, 10), true);
        due("worn behind it", x.worn(1, 9), 0);
        due("wear the last of it", x.wear(1, 9, 100), true);
        due("row as long as the bolt", x.row(1, 25), true);
        for (int k = 0; k < 25; k++) {
            due("all 0, place " + k, x.worn(1, k), 0);
        }
        due("its last place is told", x.wear(1, 24, 1), true);
        due("row 0", x.row(1, 0), true);
        due("missing: nothing is worn", x.worn(1, 24), 0);
        due("missing: no place is told", x.wear(1, 0, 0), false);
        due("row 0 of a missing one", x.row(1, 0), true);
        due("row 1", x.row(1, 1), true);
        due("its one place", x.wear(1, 0, 7), true);
        due("no second one", x.wear(1, 1, 7), false);
    }

    private static void rowWithOnePlaceCovered() {
        Scene patched = x -> {
            Lofts.onePanel(1).make(x);
            x.patch(0, 0, 1, 1);
            x.bolt(2, 200, ONE);
            x.row(0, 200);
            x.lay(0, 1, 0, 199, 0);
        };
        refused("row where one place is covered", patched, x -> bit(x.row(0, 200)), 0);
        refused("wear where one place is covered", patched, x -> bit(x.wear(0, 0, 1)), 0);
        answers("row when it is lifted", both(patched, x -> x.lift(0, 1)), x -> bit(x.row(0, 0)), 1);
        answers("wear when it is lifted", both(patched, x -> x.lift(0, 1)), x -> bit(x.wear(0, 199, 1)), 1);
        answers("row when it is undone", both(patched, x -> x.undo()), x -> bit(x.row(0, 0)), 1);
    }

    // ---- promise 4 ----

    private static void wear() {
        range("wear, place", Lofts::mixed, (x, v) -> bit(x.wear(1, v, 1)), 0, 9, 1, 0);
        range("wear, how much", Lofts::mixed, (x, v) -> bit(x.wear(1, 0, v)), 0, 100, 1, 0);
        noSuch("wear, bolt", Lofts::mixed, (x, v) -> bit(x.wear(v, 0, 1)), 3, 0);
        refused("wear where the ROW has ended", Lofts::mixed, (x, v) -> bit(x.wear(1, v, 1)), 0, 10, 24, 25);
        refused("wear where the ROW is missing", Lofts::mixed, (x, v) -> bit(x.wear(3, v, 1)), 0, 0, 3, 4);
        refused("wear where something lies", Lofts::mixed, (x, v) -> bit(x.wear(0, v, 1)), 0, 0, 12, 19, 20, 29);
        SailLoft x = new SailLoft();
        x.bolt(2, 200, ONE);
        x.row(0, 200);
        for (int v : new int[] {0, 1, 99, 100}) {
            due("wear the last of 200 to " + v, x.wear(0, 199, v), true);
            due("it is so", x.worn(0, 199), v);
            due("the one ahead is not", x.worn(0, 198), 0);
            due("wear the first to " + v, x.wear(0, 0, v), true);
            due("it is so, too", x.worn(0, 0), v);
        }
        due("wear a place as it is", x.wear(0, 0, 100), true);
    }

    // ---- promises 5, 18, 19, 31 ----

    private static void worn() {
        for (int k : new int[] {0, 11, 13, 19, 20, 29}) {
            answers("worn, place " + k, Lofts::mixed, x -> x.worn(0, k), 0);
        }
        answers("worn, the worn place", Lofts::mixed, x -> x.worn(0, 12), 40);
        answers("worn, the last of a ROW", Lofts::mixed, x -> x.worn(1, 9), 60);
        answers("worn, behind a ROW", Lofts::mixed, x -> x.worn(1, 10), 0);
        answers("worn, the bolt's last place", Lofts::mixed, x -> x.worn(1, 24), 0);
        answers("worn, an old bolt's last place", Lofts::mixed, x -> x.worn(3, 3), 0);
        answers("worn, behind an old bolt", Lofts::mixed, x -> x.worn(3, 4), -1);
        noSuch("worn, place", Lofts::mixed, (x, v) -> x.worn(1, v), 24, -1);
        noSuch("worn, bolt", Lofts::mixed, (x, v) -> x.worn(v, 0), 3, -1);
    }

    private static void left() {
        int[] lefts = {20, 25, 196, 4};
        for (int b = 0; b < lefts.length; b++) {
            int n = b;
            answers("left of bolt " + n, Lofts::mixed, x -> x.left(n), lefts[n]);
            unchanged("left of bolt " + n, Lofts::mixed, x -> x.left(n));
        }
        noSuch("left, bolt", Lofts::mixed, (x, v) -> x.left(v), 3, -1);
        SailLoft x = made(Lofts.square(12));
        x.bolt(5, 30, ONE);
        for (int i = 0; i < 3; i++) {
            due("left with " + i + " laid", x.left(0), 30 - 10 * i);
            x.lay(0, i, 0, 10 * i, 0);
        }
        due("left of a full bolt", x.left(0), 0);
        due("no place of it is taken twice", x.plan(0), -1);
        x.patch(0, 0, 1, 1);
        due("nothing more lies there", x.plan(0), 3);
        x.lift(0, 1);
        due("left when one is lifted", x.left(0), 10);
    }

    private static void over() {
        int[] places = {0, 19, 20, 29};
        int[] dues = {-1, -1, 0, 0};
        for (int n = 0; n < places.length; n++) {
            int k = places[n];
            answers("over, place " + k, Lofts::mixed, x -> x.over(0, k), dues[n]);
        }
        answers("over, a taken one's first place", Lofts::mixed, x -> x.over(2, 0), 200);
        answers("over, a taken one's last place", Lofts::mixed, x -> x.over(2, 3), 200);
        answers("over, behind a taken one", Lofts::mixed, x -> x.over(2, 4), -1);
        noSuch("over, place", Lofts::mixed, (x, v) -> x.over(0, v), 29, -1);
        noSuch("over, bolt", Lofts::mixed, (x, v) -> x.over(v, 0), 3, -1);
        SailLoft x = new SailLoft();
        for (int s = 0; s < 10; s++) {
            x.sail(0, 5, 0, 5, 40);
        }
        x.cut(9, 2, 1);
        x.bolt(2, 5, ONE);
        x.lay(9, 39, 0, 0, 0);
        due("the last panel of the last sail", x.over(0, 4), 939);
        due("its first place", x.over(0, 0), 939);
    }

    private static void old() {
        int[] olds = {-1, -1, -1, 2};
        for (int b = 0; b < olds.length; b++) {
            int n = b;
            answers("old, bolt " + n, Lofts::mixed, x -> x.old(n), olds[n]);
        }
        noSuch("old, bolt", Lofts::mixed, (x, v) -> x.old(v), 3, -1);
        SailLoft x = made(Lofts::mixed);
        x.undo();
        due("old when its taking is undone", x.old(3), -1);
        x.bolt(2, 1, ONE);
        due("old of a new bolt in its stead", x.old(3), -1);
        Scene first = y -> {
            y.bolt(2, 10, ONE);
            Lofts.onePanel(1).make(y);
            y.lay(0, 0, 0, 0, 0);
            y.take(0);
        };
        answers("old, from sail 0", first, y -> y.old(1), 0);
    }

    public static void main(String[] args) {
        newObject();
        bolt();
        row();
        wear();
        worn();
        left();
        over();
        old();
        end();
    }
}
