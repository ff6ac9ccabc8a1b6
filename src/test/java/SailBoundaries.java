/** The boundary cases of promises 6 to 15, and of the term SAILS. */
public final class SailBoundaries extends Check {

    // ---- promise 6 ----

    private static void sail() {
        range("sail, left end of the foot", Lofts::mixed, (x, v) -> x.sail(v, 1, 0, 1, 5), -500, 500, 3, -1);
        range("sail, right end of the foot", Lofts::mixed, (x, v) -> x.sail(0, v, 0, 1, 5), -500, 500, 3, -1);
        range("sail, left end of the head", Lofts::mixed, (x, v) -> x.sail(0, 1, v, 1, 5), -500, 500, 3, -1);
        range("sail, right end of the head", Lofts::mixed, (x, v) -> x.sail(0, 1, 0, v, 5), -500, 500, 3, -1);
        range("sail, height", Lofts::mixed, (x, v) -> x.sail(0, 1, 0, 1, v), 1, 60, 3, -1);
        newSailIsOpen();
        fullOfSails();
    }

    private static void newSailIsOpen() {
        SailLoft x = new SailLoft();
        due("a sail whose sides are crossed", x.sail(500, -500, 500, -500, 60), 0);
        int[] dues = {0, 0, 0, -120000, 0, 0, 0, 0, 60};
        for (int what = 0; what < dues.length; what++) {
            due("a new sail, told " + what, x.told(0, what), dues[what]);
        }
        due("a sail of height 1", x.sail(-500, 500, -500, 500, 1), 1);
        due("its height", x.told(1, 8), 1);
        due("its area", x.told(1, 3), 2000);
    }

    private static void fullOfSails() {
        SailLoft x = new SailLoft();
        for (int n = 0; n < 10; n++) {
            due("sail " + n, x.sail(0, 3, 0, 3, 1), n);
            due("sails then", x.count(1), n + 1);
        }
        refused("a sail behind the 10th", Lofts::allSails, y -> y.sail(0, 3, 0, 3, 1), -1);
        refused("a wrong sail behind the 10th", Lofts::allSails, y -> y.sail(0, 3, 0, 3, 0), -1);
        due("undo of the 10th", x.undo(), true);
        due("the 10th again", x.sail(0, 9, 0, 9, 60), 9);
        due("its height", x.told(9, 8), 60);
        due("full again", x.sail(0, 3, 0, 3, 1), -1);
        Scene taken = both(Lofts::allSails, y -> {
            y.bolt(2, 5, ONE);
            y.cut(0, 2, 1);
            y.plan(0);
            y.take(0);
        });
        refused("10 with a taken one", taken, y -> y.sail(0, 3, 0, 3, 1), -1);
    }

    // ---- promise 7 ----

    private static void edge() {
        for (int s = 0; s <= 1; s++) {
            int side = s;
            range("edge of side " + side + ", places", Lofts::mixed, (x, v) -> bit(x.edge(1, side, v)), 0, 7, 1, 0);
            refused("edge of a CUT sail", Lofts::mixed, (x, v) -> bit(x.edge(0, side, v)), 0, -1, 0, 1, 9, 10);
            refused("edge of a TAKEN sail", Lofts::mixed, (x, v) -> bit(x.edge(2, side, v)), 0, -1, 0, 1, 4, 5);
        }
        range("edge of height 1, places", Lofts.open(1), (x, v) -> bit(x.edge(0, 0, v)), 0, 2, 1, 0);
        range("edge of height 60, places", Lofts.open(60), (x, v) -> bit(x.edge(0, 1, v)), 0, 61, 1, 0);
        range("edge, side", Lofts::mixed, (x, v) -> bit(x.edge(1, v, 1)), 0, 1, 1, 0);
        noSuch("edge, sail", Lofts::mixed, (x, v) -> bit(x.edge(v, 0, 1)), 2, 0);
        edgesAreZero();
        answers("edge when the cut is undone", both(Lofts.square(8), x -> x.undo()), x -> bit(x.edge(0, 0, 9)), 1);
    }

    private static void edgesAreZero() {
        SailLoft x = made(Lofts::mixed);
        due("at ahead of a new ROW", x.at(1, 0, 6), -5);
        due("edge of the same length", x.edge(1, 0, 7), true);
        due("at behind it", x.at(1, 0, 6), -3);
        due("the other side is as it was", x.at(1, 1, 2), 10);
        due("stand out again", x.stand(1, 0, 6, -200), true);
        due("edge that ends ahead of it", x.edge(1, 0, 6), true);
        due("what it doesn't tell is 0", x.at(1, 0, 6), -3);
        due("it isn't told", x.stand(1, 0, 6, 1), false);
        due("the one ahead is", x.stand(1, 0, 5, 1), true);
        due("edge 0", x.edge(1, 0, 0), true);
        due("missing: 0", x.at(1, 0, 5), -3);
        due("missing: no place is told", x.stand(1, 0, 0, 0), false);
        due("edge 0 of a missing one", x.edge(1, 0, 0), true);
    }

    // ---- promise 8 ----

    private static void stand() {
        range("stand at the left, place", Lofts::mixed, (x, v) -> bit(x.stand(1, 0, v, 1)), 0, 6, 1, 0);
        range("stand at the right, place", Lofts::mixed, (x, v) -> bit(x.stand(1, 1, v, 1)), 0, 2, 1, 0);
        range("stand, how far", Lofts::mixed, (x, v) -> bit(x.stand(1, 0, 3, v)), -200, 200, 1, 0);
        range("stand at the right, how far", Lofts::mixed, (x, v) -> bit(x.stand(1, 1, 2, v)), -200, 200, 1, 0);
        range("stand, side", Lofts::mixed, (x, v) -> bit(x.stand(1, v, 0, 1)), 0, 1, 1, 0);
        noSuch("stand, sail", Lofts::mixed, (x, v) -> bit(x.stand(v, 0, 0, 1)), 2, 0);
        refused("stand where the ROW has ended", Lofts::mixed, (x, v) -> bit(x.stand(1, 1, v, 1)), 0, 3, 6, 7);
        refused("stand where the ROW is missing", Lofts.open(8), (x, v) -> bit(x.stand(0, 0, v, 1)), 0, 0, 8);
        Scene cut = both(Lofts::mixed, x -> x.cut(1, 20, 1));
        refused("stand of a CUT sail", cut, (x, v) -> bit(x.stand(1, 0, v, 1)), 0, 0, 6);
        Scene taken = both(cut, x -> {
            x.bolt(20, 200, ONE);
            x.lay(1, 0, 4, 0, 0);
            x.take(1);
        });
        answers("the sail is TAKEN", taken, x -> x.told(1, 0), 2);
        refused("stand of a TAKEN sail", taken, (x, v) -> bit(x.stand(1, 0, v, 1)), 0, 0, 6);
        standTells();
    }

    private static void standTells() {
        SailLoft x = made(Lofts.open(60));
        x.edge(0, 0, 61);
        x.edge(0, 1, 61);
        for (int v : new int[] {-200, -199, -1, 0, 1, 199, 200}) {
            due("stand " + v + " at the left of the head", x.stand(0, 0, 60, v), true);
            due("it is so", x.at(0, 0, 60), v);
            due("stand " + v + " at the right of the foot", x.stand(0, 1, 0, v), true);
            due("it is so there", x.at(0, 1, 0), 10 + v);
            due("not at the left of it", x.at(0, 0, 0), 0);
            due("not above it", x.at(0, 1, 1), 10);
        }
    }

    // ---- promise 9 ----

    private static void at() {
        for (int s = 0; s <= 1; s++) {
            int side = s;
            noSuch("at of an OPEN sail, height", Lofts::mixed, (x, v) -> x.at(1, side, v), 6, -10000);
            noSuch("at of a CUT sail, height", Lofts::mixed, (x, v) -> x.at(0, side, v), 8, -10000);
            noSuch("at of a TAKEN sail, height", Lofts::mixed, (x, v) -> x.at(2, side, v), 3, -10000);
        }
        noSuch("at, side", Lofts::mixed, (x, v) -> x.at(1, v, 0), 1, -10000);
        noSuch("at, sail", Lofts::mixed, (x, v) -> x.at(v, 0, 0), 2, -10000);
        answers("at, foot at the left", Lofts::mixed, x -> x.at(1, 0, 0), -3);
        answers("at, head at the left", Lofts::mixed, x -> x.at(1, 0, 6), -5);
        answers("at, head at the right", Lofts::mixed, x -> x.at(1, 1, 6), 3);
        answers("at, of a CUT sail", Lofts::mixed, x -> x.at(0, 1, 8), 10);
        answers("at, of a TAKEN sail", Lofts::mixed, x -> x.at(2, 1, 3), 4);
        farEdges();
        quotients();
    }

    private static void farEdges() {
        SailLoft x = new SailLoft();
        x.sail(-500, 500, -500, 500, 60);
        x.edge(0, 0, 61);
        x.edge(0, 1, 61);
        for (int y : new int[] {0, 59, 60}) {
            x.stand(0, 0, y, -200);
            x.stand(0, 1, y, 200);
            due("the leftmost edge at " + y, x.at(0, 0, y), -700);
            due("the rightmost edge at " + y, x.at(0, 1, y), 700);
            x.stand(0, 0, y, 200);
            due("inwards at " + y, x.at(0, 0, y), -300);
        }
    }

    /** The quotient is cut towards 0, of a rising and of a falling edge. */
    private static void quotients() {
        SailLoft x = new SailLoft();
        x.sail(0, 0, 2, -2, 3);
        int[] dues = {0, 0, 1, 2};
        for (int y = 0; y <= 3; y++) {
            due("rising by 2 in 3, at " + y, x.at(0, 0, y), dues[y]);
            due("falling by 2 in 3, at " + y, x.at(0, 1, y), -dues[y]);
        }
        x.sail(10, -10, -10, 10, 60);
        for (int y = 0; y <= 60; y++) {
            due("falling past 0, at " + y, x.at(1, 0, y), 10 - y / 3);
            due("rising past 0, at " + y, x.at(1, 1, y), -10 + y / 3);
        }
        x.sail(500, -500, -500, 500, 1);
        due("the foot of a sail of height 1", x.at(2, 0, 0), 500);
        due("the head of a sail of height 1", x.at(2, 0, 1), -500);
    }

    // ---- promise 10 ----

    private static void cut() {
        answers("cut, width 2", Lofts.open(8), x -> x.cut(0, 2, 1), 8);
        answers("cut, width 20", Lofts.open(8), x -> x.cut(0, 20, 1), 1);
        refused("cut, width", Lofts::mixed, (x, v) -> x.cut(1, v, 1), -1, 1, 0, -1, 21, 22,
                Integer.MIN_VALUE, Integer.MAX_VALUE);
        for (int w : new int[] {2, 3, 19, 20}) {
            answers("cut, the least seam of " + w, Lofts.open(1), x -> x.cut(0, w, 1), 1);
            answers("cut, the greatest seam of " + w, Lofts.open(1), x -> x.cut(0, w, w - 1), 1);
            refused("cut, seam of " + w, Lofts.open(1), (x, v) -> x.cut(0, w, v), -1, -1, 0, w, w + 1,
                    Integer.MIN_VALUE, Integer.MAX_VALUE);
        }
        noSuch("cut, sail", Lofts::mixed, (x, v) -> x.cut(v, 5, 1), 2, -1);
        refused("cut of a CUT sail", Lofts::mixed, x -> x.cut(0, 5, 1), -1);
        refused("cut of a TAKEN sail", Lofts::mixed, x -> x.cut(2, 5, 1), -1);
        answers("cut again when it is undone", both(Lofts.square(8), x -> x.undo()), x -> x.cut(0, 4, 2), 4);
        panelsOfCut();
        tooManyPanels();
        edgesThatMeet();
    }

    /** How many panels there are, and that none is empty, about each multiple of their height. */
    private static void panelsOfCut() {
        int[][] rows = {{1, 2, 1, 1}, {7, 9, 1, 1}, {8, 9, 1, 1}, {9, 9, 1, 2}, {15, 9, 1, 2}, {16, 9, 1, 2},
            {17, 9, 1, 3}, {60, 20, 1, 4}, {57, 20, 1, 3}, {58, 20, 1, 4}, {60, 20, 18, 30}, {3, 20, 17, 1}};
        for (int[] row : rows) {
            SailLoft x = made(Lofts.open(row[0]));
            String name = "height " + row[0] + ", width " + row[1] + ", seam " + row[2];
            due(name + ", panels", x.cut(0, row[1], row[2]), row[3]);
            due(name + ", told", x.told(0, 1), row[3]);
            int h = row[1] - row[2];
            int last = row[3] - 1;
            due(name + ", last from", x.panel(0, last, 1), last * h);
            due(name + ", last to", x.panel(0, last, 2), row[0]);
            due(name + ", last breadth", x.panel(0, last, 4), row[0] - last * h + row[2]);
            due(name + ", first from", x.panel(0, 0, 1), 0);
            due(name + ", first to", x.panel(0, 0, 2), Math.min(h, row[0]));
            due(name + ", none behind", x.panel(0, row[3], 1), -1);
        }
    }

    private static void tooManyPanels() {
        answers("cut into 39", Lofts.open(39), x -> x.cut(0, 2, 1), 39);
        answers("cut into 40", Lofts.open(40), x -> x.cut(0, 2, 1), 40);
        refused("cut into 41", Lofts.open(41), x -> x.cut(0, 2, 1), -1);
        refused("cut into 60", Lofts.open(60), x -> x.cut(0, 20, 19), -1);
        SailLoft x = made(Lofts.open(41));
        due("41 at first", x.cut(0, 20, 19), -1);
        due("21 then", x.cut(0, 20, 18), 21);
        due("the last one's lower height", x.panel(0, 20, 1), 40);
    }

    private static void edgesThatMeet() {
        int[][] sails = {{10, 10, 0, 10}, {11, 10, 0, 10}, {0, 10, 10, 10}, {0, 10, 11, 10}, {5, 5, 5, 5}, {9, 0, 9, 0}};
        for (int[] s : sails) {
            Scene scene = x -> x.sail(s[0], s[1], s[2], s[3], 4);
            refused("cut of " + s[0] + " " + s[1] + " " + s[2] + " " + s[3], scene, x -> x.cut(0, 5, 1), -1);
        }
        answers("cut, the foot 1 broad", x -> x.sail(9, 10, 0, 10, 4), x -> x.cut(0, 5, 1), 1);
        answers("cut, the head 1 broad", x -> x.sail(0, 10, 9, 10, 4), x -> x.cut(0, 5, 1), 1);
        for (int y = 0; y <= 4; y++) {
            int h = y;
            Scene bent = x -> {
                x.sail(0, 10, 0, 10, 4);
                x.edge(0, 0, 5);
                x.edge(0, 1, 5);
            };
            String name = "cut, bent at " + h + " by ";
            answers(name + "9", both(bent, x -> x.stand(0, 0, h, 9)), x -> x.cut(0, 5, 1), 1);
            refused(name + "10", both(bent, x -> x.stand(0, 0, h, 10)), x -> x.cut(0, 5, 1), -1);
            refused(name + "11", both(bent, x -> x.stand(0, 0, h, 11)), x -> x.cut(0, 5, 1), -1);
            answers(name + "-9", both(bent, x -> x.stand(0, 1, h, -9)), x -> x.cut(0, 5, 1), 1);
            refused(name + "-10", both(bent, x -> x.stand(0, 1, h, -10)), x -> x.cut(0, 5, 1), -1);
        }
    }

    // ---- promise 11 ----

    private static void narrow() {
        range("narrow, how much", Lofts::mixed, (x, v) -> bit(x.narrow(0, 0, v)), 0, 50, 1, 0);
        refused("narrow, panel", Lofts::mixed, (x, v) -> bit(x.narrow(0, v, 1)), 0, -1, 1, 2, 3,
                Integer.MIN_VALUE, Integer.MAX_VALUE);
        range("narrow of 40, panel", Lofts::allPanels, (x, v) -> bit(x.narrow(0, v, 1)), 0, 38, 1, 0);
        refused("narrow of one panel alone", Lofts.onePanel(4), (x, v) -> bit(x.narrow(0, v, 1)), 0, -1, 0, 1);
        refused("narrow of one panel alone, to 0", Lofts.onePanel(4), x -> bit(x.narrow(0, 0, 0)), 0);
        noSuch("narrow, sail", Lofts::mixed, (x, v) -> bit(x.narrow(v, 0, 1)), 2, 0);
        refused("narrow of an OPEN sail", Lofts::mixed, x -> bit(x.narrow(1, 0, 1)), 0);
        refused("narrow of a TAKEN sail", Lofts::mixed, x -> bit(x.narrow(2, 0, 1)), 0);
        Scene taken = both(Lofts.square(8), x -> {
            x.bolt(5, 20, ONE);
            x.plan(0);
            x.take(0);
        });
        refused("narrow of a TAKEN sail with a seam", taken, x -> bit(x.narrow(0, 0, 1)), 0);
        tapered();
    }

    private static void tapered() {
        SailLoft x = made(Lofts.square(12));
        int[] lets = {1, 50, 0, 49, 0};
        for (int v : lets) {
            due("narrow to " + v, x.narrow(0, 1, v), true);
            due("what it lets out", x.panel(0, 1, 9), v);
            due("its kind", x.panel(0, 1, 0), v > 0 ? 1 : 0);
            due("the kind below", x.panel(0, 0, 0), 0);
            due("the kind above", x.panel(0, 2, 0), 0);
            due("its length stays", x.panel(0, 1, 3), 10);
            due("its area stays", x.panel(0, 1, 5), 80);
        }
        int acts = x.count(2);
        due("narrow to what it is", x.narrow(0, 1, 0), true);
        due("is an act", x.count(2), acts + 1);
    }

    // ---- promise 12 ----

    private static void patch() {
        range("patch, strip", Lofts::mixed, (x, v) -> x.patch(0, v, 1, 1), 0, 7, 3, -1);
        range("patch, breadth", Lofts::mixed, (x, v) -> x.patch(0, 0, v, 1), 1, 20, 3, -1);
        range("patch, length", Lofts::mixed, (x, v) -> x.patch(0, 0, 1, v), 1, 100, 3, -1);
        range("patch of height 1, strip", Lofts.onePanel(1), (x, v) -> x.patch(0, v, 1, 1), 0, 0, 1, -1);
        noSuch("patch, sail", Lofts::mixed, (x, v) -> x.patch(v, 0, 1, 1), 2, -1);
        refused("patch of an OPEN sail", Lofts::mixed, x -> x.patch(1, 0, 1, 1), -1);
        refused("patch of a TAKEN sail", Lofts::mixed, x -> x.patch(2, 0, 1, 1), -1);
        patchAtItsEnds();
        fullOfPatches();
    }

    private static void patchAtItsEnds() {
        SailLoft x = made(Lofts.open(60));
        x.cut(0, 20, 1);
        due("the smallest", x.patch(0, 0, 1, 1), 4);
        due("the greatest", x.patch(0, 59, 20, 100), 5);
        int[] small = {2, 0, 1, 1, 1, 2, -1, -1, 0, 0};
        int[] great = {2, 59, 60, 100, 20, 4000, -1, -1, 0, 0};
        for (int what = 0; what <= 9; what++) {
            due("the smallest, " + what, x.panel(0, 4, what), small[what]);
            due("the greatest, " + what, x.panel(0, 5, what), great[what]);
        }
        due("the sail's area stays", x.told(0, 3), 1200);
    }

    private static void fullOfPatches() {
        refused("patch of 40 panels", Lofts::allPanels, x -> x.patch(0, 0, 1, 1), -1);
        refused("a wrong patch of 40 panels", Lofts::allPanels, x -> x.patch(0, 0, 0, 1), -1);
        Scene nearly = x -> {
            x.sail(0, 5, 0, 5, 39);
            x.cut(0, 2, 1);
        };
        answers("patch of 39 panels", nearly, x -> x.patch(0, 0, 1, 1), 39);
        refused("two of 39 panels", both(nearly, x -> x.patch(0, 0, 1, 1)), x -> x.patch(0, 0, 1, 1), -1);
        Scene patched = both(Lofts.onePanel(1), x -> {
            for (int n = 1; n < 40; n++) {
                x.patch(0, 0, 1, n);
            }
        });
        answers("39 patches", patched, x -> x.told(0, 2), 39);
        answers("the last of them", patched, x -> x.panel(0, 39, 3), 39);
        refused("a patch behind the 39th", patched, x -> x.patch(0, 0, 1, 1), -1);
        answers("again when one is undone", both(patched, x -> x.undo()), x -> x.patch(0, 0, 1, 77), 39);
        answers("when all is laid, too", both(patched, x -> {
            for (int n = 0; n < 10; n++) {
                x.bolt(20, 200, ONE);
            }
            x.plan(0);
        }), x -> x.patch(0, 0, 1, 1), -1);
    }

    // ---- promise 13 ----

    private static void told() {
        int[][] dues = {{1, 2, 1, 160, 1, 1, 40, 1, 8}, {0, 0, 0, 88, 0, 0, 0, 1, 6}, {2, 1, 0, 24, 0, 0, 30, 0, 3}};
        for (int s = 0; s < dues.length; s++) {
            for (int what = 0; what <= 8; what++) {
                int n = s;
                int w = what;
                answers("told " + n + " " + w, Lofts::mixed, x -> x.told(n, w), dues[n][w]);
            }
            int n = s;
            noSuch("told " + n + ", what", Lofts::mixed, (x, v) -> x.told(n, v), 8, -1);
        }
        for (int what = 0; what <= 8; what++) {
            int w = what;
            noSuch("told " + w + ", sail", Lofts::mixed, (x, v) -> x.told(v, w), 2, -1);
        }
        areas();
        toldOfReefs();
        toldOfWeights();
    }

    private static void areas() {
        answers("no area", x -> x.sail(0, 0, 0, 0, 60), x -> x.told(0, 3), 0);
        answers("the least area of a strip", x -> x.sail(0, 1, 0, 1, 1), x -> x.told(0, 3), 2);
        answers("an area below 0", x -> x.sail(1, 0, 1, 0, 1), x -> x.told(0, 3), -2);
        Scene great = x -> {
            x.sail(-500, 500, -500, 500, 60);
            x.edge(0, 0, 61);
            x.edge(0, 1, 61);
            for (int y = 0; y <= 60; y++) {
                x.stand(0, 0, y, -200);
                x.stand(0, 1, y, 200);
            }
        };
        answers("the greatest area", great, x -> x.told(0, 3), 168000);
        answers("the same when CUT", both(great, x -> x.cut(0, 20, 1)), x -> x.told(0, 3), 168000);
        answers("its panel's length", both(great, x -> x.cut(0, 20, 1)), x -> x.panel(0, 0, 3), 1400);
        answers("its panel's area", both(great, x -> x.cut(0, 20, 1)), x -> x.panel(0, 0, 5), 53200);
        answers("a ROW at one height counts twice", x -> {
            x.sail(0, 10, 0, 10, 2);
            x.edge(0, 1, 2);
            x.stand(0, 1, 1, 3);
        }, x -> x.told(0, 3), 46);
        answers("at the foot once", x -> {
            x.sail(0, 10, 0, 10, 2);
            x.edge(0, 1, 1);
            x.stand(0, 1, 0, 3);
        }, x -> x.told(0, 3), 43);
    }

    private static void toldOfReefs() {
        SailLoft x = made(Lofts.square(8));
        due("no reef", x.told(0, 4), 0);
        x.reef(0, 8);
        due("the reef at H", x.told(0, 4), 8);
        for (int n = 1; n <= 3; n++) {
            x.line(0, n);
            due("lines", x.told(0, 7), n);
        }
        x.line(0, 4);
        due("no fourth line", x.told(0, 7), 3);
    }

    private static void toldOfWeights() {
        SailLoft x = made(Lofts::empty);
        x.sail(-50, 50, -50, 50, 60);
        x.cut(0, 20, 1);
        for (int b = 0; b < 4; b++) {
            x.bolt(20, 100, bits(1000f));
            due("the weight with " + b + " laid", x.told(0, 6), 1000000L * b);
            x.lay(0, b, b, 0, 0);
        }
        due("the weight of all: the last one is smaller", x.told(0, 6), 3000000 + 300000);
        x.lift(0, 0);
        due("the weight when one is lifted", x.told(0, 6), 2000000 + 300000);
    }

    // ---- promise 14 ----

    private static void panel() {
        int[][] dues = {{1, 0, 4, 10, 5, 80, 0, 20, 40, 5}, {0, 4, 8, 10, 5, 80, -1, -1, 0, 0},
            {2, 3, 4, 3, 2, 12, -1, -1, 0, 0}};
        for (int i = 0; i < dues.length; i++) {
            for (int what = 0; what <= 9; what++) {
                int n = i;
                int w = what;
                answers("panel " + n + " " + w, Lofts::mixed, x -> x.panel(0, n, w), dues[n][w]);
            }
            int n = i;
            noSuch("panel " + n + ", what", Lofts::mixed, (x, v) -> x.panel(0, n, v), 9, -1);
        }
        for (int what = 0; what <= 9; what++) {
            int w = what;
            noSuch("panel " + w + ", i", Lofts::mixed, (x, v) -> x.panel(0, v, w), 2, -1);
            noSuch("panel " + w + ", sail", Lofts::mixed, (x, v) -> x.panel(v, 0, w), 2, -1);
            answers("panel " + w + " of an OPEN sail", Lofts::mixed, x -> x.panel(1, 0, w), -1);
        }
        int[] taken = {0, 0, 3, 4, 4, 24, 2, 0, 30, 0};
        for (int what = 0; what <= 9; what++) {
            int w = what;
            answers("panel " + w + " of a TAKEN sail", Lofts::mixed, x -> x.panel(2, 0, w), taken[w]);
        }
        lengths();
        weights();
        kinds();
    }

    /** The height between two panels counts for both. */
    private static void lengths() {
        for (int y = 0; y <= 8; y++) {
            SailLoft x = made(Lofts.open(8));
            x.edge(0, 0, 9);
            x.edge(0, 1, 9);
            x.stand(0, 0, y, -7);
            x.stand(0, 1, y, 30);
            x.cut(0, 5, 1);
            due("the lower one's length, bent at " + y, x.panel(0, 0, 3), y <= 4 ? 47 : 10);
            due("the upper one's length, bent at " + y, x.panel(0, 1, 3), y >= 4 ? 47 : 10);
            due("the lower one's area, bent at " + y, x.panel(0, 0, 5), 80 + (y > 4 ? 0 : y % 4 == 0 ? 37 : 74));
            due("the upper one's area, bent at " + y, x.panel(0, 1, 5), 80 + (y < 4 ? 0 : y % 4 == 0 ? 37 : 74));
        }
        SailLoft x = made(Lofts.open(8));
        x.edge(0, 0, 9);
        x.edge(0, 1, 9);
        x.stand(0, 0, 1, -5);
        x.stand(0, 1, 3, 5);
        x.cut(0, 9, 1);
        due("least and greatest at different heights", x.panel(0, 0, 3), 20);
    }

    /** TWICE the area is 2,000: a gram more or less of a square is a weight of 1,000. */
    private static void weights() {
        float[] grams = {999f, 999.9999f, 1000f};
        int[] dues = {999000, 999999, 1000000};
        for (int n = 0; n < grams.length; n++) {
            due("weight of " + grams[n], weightOn(100, 10, grams[n]), dues[n]);
        }
        due("weight above the most", weightOn(100, 11, 1000f), 1000000);
        due("weight just above the most", weightOn(100, 19, 526.4f), 1000000);
        due("weight just below the most", weightOn(100, 19, 526.3f), 999970);
        due("weight is cut, not rounded", weightOn(3, 1, 0.5f), 1);
        due("weight below 1", weightOn(1, 1, 0.9999f), 0);
        due("weight of 1", weightOn(1, 1, 1f), 1);
        due("weight as floats", weightOn(100, 19, 0.7f), (int) (0.7f * 3800f / 2f));
        due("weight of grams 0", weightOn(100, 19, 0f), 0);
    }

    private static int weightOn(int length, int height, float grams) {
        SailLoft x = new SailLoft();
        x.sail(0, length, 0, length, height);
        x.cut(0, height + 1, 1);
        x.bolt(20, 200, bits(grams));
        x.lay(0, 0, 0, 0, 0);
        return x.panel(0, 0, 8);
    }

    /** Bolt 3 of the mixed loft came from a sail; it is 4 wide and 4 long. */
    private static void kinds() {
        SailLoft x = made(Lofts::mixed);
        x.sail(0, 2, 0, 2, 4);
        x.cut(3, 3, 1);
        x.patch(3, 0, 1, 1);
        x.narrow(3, 0, 1);
        due("tapered", x.panel(3, 0, 0), 1);
        due("lay on the old bolt", x.lay(3, 0, 3, 0, 0), true);
        due("old rather than tapered", x.panel(3, 0, 0), 3);
        x.lay(3, 1, 3, 2, 0);
        due("old, not tapered", x.panel(3, 1, 0), 3);
        x.lift(3, 1);
        due("a panel when it is lifted", x.panel(3, 1, 0), 0);
        x.lay(3, 2, 3, 3, 0);
        due("a patch stays a patch", x.panel(3, 2, 0), 2);
        x.lift(3, 0);
        due("tapered again", x.panel(3, 0, 0), 1);
        x.narrow(3, 0, 0);
        due("a panel again", x.panel(3, 0, 0), 0);
        x.lay(3, 0, 1, 0, 0);
        due("a panel on new cloth", x.panel(3, 0, 0), 0);
    }

    // ---- promise 15 ----

    private static void full() {
        noSuch("full, height", Lofts::mixed, (x, v) -> x.full(0, v), 8, -1);
        noSuch("full, sail", Lofts::mixed, (x, v) -> x.full(v, 0), 2, -1);
        answers("full of an OPEN sail", Lofts::mixed, x -> x.full(1, 0), -1);
        answers("full of a TAKEN sail", Lofts::mixed, x -> x.full(2, 0), -1);
        for (int y = 0; y <= 8; y++) {
            int h = y;
            answers("full at " + h, Lofts::mixed, x -> x.full(0, h), h < 4 ? 0 : 5);
        }
        answers("full of one panel", Lofts.onePanel(4), x -> x.full(0, 4), 0);
        SailLoft x = made(Lofts::allPanels);
        for (int i = 0; i < 39; i++) {
            x.narrow(0, i, 50);
        }
        for (int y : new int[] {0, 1, 2, 38, 39, 40}) {
            due("full of 39 seams, at " + y, x.full(0, y), 50 * Math.min(y, 39));
        }
        x.narrow(0, 0, 0);
        due("full without the first", x.full(0, 40), 1900);
    }

    public static void main(String[] args) {
        sail();
        edge();
        stand();
        at();
        cut();
        narrow();
        patch();
        told();
        panel();
        full();
        end();
    }
}
