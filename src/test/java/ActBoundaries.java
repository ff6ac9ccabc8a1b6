/** The boundary cases of promises 32 and 33, and of the term ACTS. */
public final class ActBoundaries extends Check {

    /** The act is one, and when it is undone all is as if it had never been. */
    private static void undone(String name, Scene scene, Call act) {
        SailLoft x = made(scene);
        int acts = x.count(2);
        act.on(x);
        due(name + " is an act", x.count(2), acts + 1);
        due(name + " can be undone", x.undo(), true);
        due(name + " is no act any more", x.count(2), acts);
        unchanged("undo of " + name, scene, l -> {
            act.on(l);
            return bit(l.undo());
        });
        Scene done = l -> act.on(l);
        answersAgain(name, scene, act);
        unchanged(name + " twice, one undone", both(scene, done), l -> {
            long answer = act.on(l);
            // What is refused the second time leaves nothing to undo.
            return l.count(2) > acts + 1 ? bit(l.undo()) : answer;
        });
    }

    private static void answersAgain(String name, Scene scene, Call act) {
        SailLoft x = made(scene);
        long first = act.on(x);
        x.undo();
        due(name + " once more", act.on(x), first);
    }

    private static void acts() {
        undone("bolt", Lofts::empty, x -> x.bolt(20, 200, ONE));
        undone("sail", Lofts::empty, x -> x.sail(-500, 500, 0, 1, 60));
        boltActs();
        sailActs();
        layingActs();
        windActs();
    }

    private static void boltActs() {
        Scene few = Lofts::few;
        Scene less = both(few, x -> x.undo());
        undone("bolt", less, x -> x.bolt(20, 200, ONE));
        undone("a ROW as long as the bolt", less, x -> bit(x.row(0, 30)));
        undone("a ROW of the same length", less, x -> bit(x.row(0, 20)));
        undone("a ROW that is missing then", less, x -> bit(x.row(0, 0)));
        undone("a ROW of 1", less, x -> bit(x.row(0, 1)));
        undone("wear", less, x -> bit(x.wear(0, 19, 100)));
        undone("wear of the worn place", less, x -> bit(x.wear(0, 12, 0)));
        undone("wear to what it is", less, x -> bit(x.wear(0, 12, 40)));
        Scene bare = x -> x.bolt(5, 30, ONE);
        undone("a ROW where it was missing", bare, x -> bit(x.row(0, 30)));
        undone("no ROW where it was missing", bare, x -> bit(x.row(0, 0)));
    }

    private static void sailActs() {
        Scene less = both(Lofts::few, x -> x.undo());
        undone("sail", less, x -> x.sail(-500, 500, 0, 1, 60));
        undone("edge as long as it can be", less, x -> bit(x.edge(1, 1, 7)));
        undone("edge of the same length", less, x -> bit(x.edge(1, 0, 7)));
        undone("edge that is missing then", less, x -> bit(x.edge(1, 0, 0)));
        undone("no edge where it was missing", less, x -> bit(x.edge(1, 1, 0)));
        undone("stand", less, x -> bit(x.stand(1, 0, 5, 200)));
        Scene bent = both(Lofts.open(6), x -> {
            x.edge(0, 1, 7);
            x.stand(0, 1, 6, -2);
        });
        undone("stand of the one that stands out", bent, x -> bit(x.stand(0, 1, 6, 200)));
        undone("edge of the one that stands out", bent, x -> bit(x.edge(0, 1, 7)));
        undone("cut of the one that stands out", bent, x -> x.cut(0, 4, 1));
        undone("stand to what it is", less, x -> bit(x.stand(1, 0, 6, 0)));
        undone("cut", less, x -> x.cut(1, 2, 1));
        undone("cut into one", less, x -> x.cut(1, 20, 1));
        undone("narrow", less, x -> bit(x.narrow(0, 1, 50)));
        undone("narrow to 0", less, x -> bit(x.narrow(0, 0, 0)));
        undone("narrow to what it is", less, x -> bit(x.narrow(0, 0, 5)));
        undone("patch", less, x -> x.patch(0, 11, 20, 100));
        undone("line of a CUT sail", less, x -> x.line(0, 12));
        undone("line of an OPEN sail", less, x -> x.line(1, 1));
    }

    private static void layingActs() {
        Scene less = both(Lofts::few, x -> x.undo());
        undone("lay at the first place", less, x -> bit(x.lay(0, 1, 0, 0, 0)));
        undone("lay at the last place", less, x -> bit(x.lay(0, 1, 0, 20, 0)));
        undone("lay on a worn place", less, x -> bit(x.lay(0, 1, 0, 12, 40)));
        undone("lay a patch", less, x -> bit(x.lay(0, 3, 1, 0, 0)));
        undone("lay beside what is laid", less, x -> bit(x.lay(0, 1, 1, 15, 0)));
        undone("lift", less, x -> bit(x.lift(0, 0)));
        undone("plan of all", less, x -> x.plan(100));
        undone("plan of some", both(Lofts.square(12), x -> x.bolt(5, 20, ONE)), x -> x.plan(0));
        undone("take", Lofts::laid, x -> x.take(0));
        undone("take of what isn't SET", both(Lofts::laid, x -> x.set(0, false)), x -> x.take(0));
        undone("lift of what plan has laid", Lofts::laid, x -> bit(x.lift(0, 2)));
    }

    private static void windActs() {
        Scene less = both(Lofts::few, x -> x.undo());
        undone("set no more", less, x -> bit(x.set(0, false)));
        undone("set", Lofts.square(8), x -> bit(x.set(0, true)));
        undone("reef at H", less, x -> bit(x.reef(0, 12)));
        undone("reef at 0", less, x -> bit(x.reef(0, 0)));
    }

    // ---- what is no act ----

    private static void noActs() {
        String[] names = {"worn", "at", "told", "panel", "full", "left", "over", "fewest", "push", "bears", "least",
            "old", "count", "mast", "wind", "plan of nothing"};
        Call[] calls = {x -> x.worn(0, 12), x -> x.at(1, 0, 6), x -> x.told(0, 3), x -> x.panel(0, 0, 3),
            x -> x.full(0, 12), x -> x.left(1), x -> x.over(1, 5), x -> x.fewest(0, 0), x -> x.push(4),
            x -> x.bears(), x -> x.least(), x -> x.old(0), x -> x.count(2), x -> bit(x.mast(50, 1)),
            x -> bit(x.wind(50, 1)), x -> x.plan(101)};
        for (int n = 0; n < calls.length; n++) {
            SailLoft x = made(Lofts::few);
            calls[n].on(x);
            due(names[n] + " is no act", x.count(2), 15);
            due(names[n] + ", undo", x.undo(), true);
            due(names[n] + ", the latest act is undone", x.at(1, 0, 6), -3);
        }
        for (int n = 0; n < 13; n++) {
            unchanged(names[n], Lofts::few, calls[n]);
        }
    }

    // ---- promise 32 ----

    private static void undoOfNone() {
        refused("undo of none", Lofts::empty, x -> bit(x.undo()), 0);
        refused("undo when all is undone", x -> {
            x.bolt(2, 1, 0);
            x.undo();
        }, x -> bit(x.undo()), 0);
        refused("undo after the mast and the wind", x -> {
            x.mast(0, 1);
            x.wind(0, 1);
        }, x -> bit(x.undo()), 0);
        refused("undo after a refused act", x -> x.bolt(1, 1, 0), x -> bit(x.undo()), 0);
        refused("undo of a 17th", both(Lofts::mixed, x -> {
            for (int n = 0; n < 16; n++) {
                x.undo();
            }
        }), x -> bit(x.undo()), 0);
    }

    private static void sixteen() {
        for (int acts = 0; acts <= 24; acts++) {
            SailLoft x = new SailLoft();
            for (int n = 0; n < acts; n++) {
                x.bolt(2, 1 + n, 0);
            }
            int can = Math.min(acts, 16);
            due(acts + " acts, count", x.count(2), can);
            for (int n = 1; n <= can; n++) {
                due(acts + " acts, undo " + n, x.undo(), true);
                due(acts + " acts, bolts then", x.count(0), acts - n);
                due(acts + " acts, count then", x.count(2), can - n);
            }
            due(acts + " acts, one undo more", x.undo(), false);
            due(acts + " acts, bolts at last", x.count(0), acts - can);
            due(acts + " acts, a bolt that is left", x.left(acts - can - 1), acts > 16 ? acts - 16 : -1);
        }
    }

    /** A reef of its own for each act: what is undone is told by where the reef is then. */
    private static void ring() {
        for (int acts : new int[] {15, 16, 17, 31, 32, 33, 47, 48, 49, 100, 400}) {
            SailLoft x = made(Lofts.onePanel(19));
            for (int n = 1; n <= acts; n++) {
                due("reef", x.reef(0, n % 19 + 1), true);
            }
            int can = Math.min(acts, 16);
            for (int n = acts - 1; n >= acts - can && n > 0; n--) {
                due(acts + " reefs, undo", x.undo(), true);
                due(acts + " reefs, the reef then", x.told(0, 4), n % 19 + 1);
            }
        }
        SailLoft x = made(Lofts.onePanel(19));
        for (int n = 1; n <= 18; n++) {
            x.reef(0, n);
        }
        for (int n = 0; n < 10; n++) {
            x.undo();
        }
        due("the reef after ten", x.told(0, 4), 8);
        for (int n = 0; n < 12; n++) {
            x.reef(0, n % 2 == 0 ? 19 : 18);
        }
        due("16 again", x.count(2), 16);
        for (int n = 0; n < 12; n++) {
            due("undo of a later one", x.undo(), true);
        }
        due("the reef is where it was", x.told(0, 4), 8);
        for (int n = 7; n >= 4; n--) {
            due("undo of an older one", x.undo(), true);
            due("the reef then", x.told(0, 4), n);
        }
        due("the oldest are lost", x.undo(), false);
        due("the reef stays", x.told(0, 4), 4);
    }

    /** An object is used for at most 512 calls: the last of them answers as any other. */
    private static void lastCall() {
        SailLoft x = made(Lofts.onePanel(19));
        for (int n = 3; n <= 494; n++) {
            x.reef(0, n % 19 + 1);
        }
        for (int n = 495; n <= 510; n++) {
            due("undo, call " + n, x.undo(), true);
        }
        due("call 511", x.undo(), false);
        due("call 512", x.told(0, 4), (494 - 16) % 19 + 1);
    }

    private static void undoIsNoAct() {
        SailLoft x = made(Lofts::few);
        for (int n = 14; n >= 0; n--) {
            due("undo", x.undo(), true);
            due("acts then", x.count(2), n);
        }
        due("no more", x.undo(), false);
        due("no bolts", x.count(0), 0);
        due("no sails", x.count(1), 0);
        due("no ask finds a bolt", x.left(0), -1);
        due("no ask finds a sail", x.told(0, 8), -1);
        whatStays(x);
    }

    /** The mast and the wind are as they are. */
    private static void whatStays(SailLoft x) {
        x.sail(0, 10, 0, 10, 12);
        x.cut(0, 5, 1);
        x.set(0, true);
        due("the wind stays", x.push(4), 140);
        due("the load stays", x.bears(), 4);
        for (int n = 0; n < 3; n++) {
            x.undo();
        }
        due("nothing is SET", x.bears(), -1);
    }

    private static void undoOfCovered() {
        SailLoft x = made(Lofts::few);
        x.lay(0, 1, 1, 15, 0);
        x.lift(0, 0);
        x.lay(0, 0, 0, 0, 0);
        x.take(0);
        due("take was refused", x.count(2), 16);
        x.undo();
        due("panel 0 lies on no bolt", x.panel(0, 0, 6), -1);
        x.undo();
        due("panel 0 lies where it was", x.panel(0, 0, 7), 5);
        due("over its last place", x.over(1, 14), 0);
        due("over the next one", x.over(1, 15), 1);
        due("left", x.left(1), 10);
        x.undo();
        due("left without panel 1", x.left(1), 20);
    }

    // ---- promise 33 ----

    private static void count() {
        noSuch("count", Lofts::mixed, (x, v) -> x.count(v), 2, -1);
        noSuch("count of nothing", Lofts::empty, (x, v) -> x.count(v), 2, -1);
        int[] dues = {4, 3, 16};
        int[] few = {2, 2, 15};
        int[] laid = {2, 1, 8};
        for (int what = 0; what <= 2; what++) {
            int w = what;
            answers("count " + w, Lofts::mixed, x -> x.count(w), dues[w]);
            answers("count " + w + " of few", Lofts::few, x -> x.count(w), few[w]);
            answers("count " + w + " of laid", Lofts::laid, x -> x.count(w), laid[w]);
            unchanged("count " + w, Lofts::mixed, x -> x.count(w));
        }
        answers("all bolts", Lofts::allBolts, x -> x.count(0), 24);
        answers("all sails", Lofts::allSails, x -> x.count(1), 10);
        answers("10 acts", Lofts::allSails, x -> x.count(2), 10);
        answers("24 acts", Lofts::allBolts, x -> x.count(2), 16);
        answers("a taken sail is a sail", both(Lofts::laid, x -> x.take(0)), x -> x.count(1), 1);
        answers("its bolts are bolts", both(Lofts::laid, x -> x.take(0)), x -> x.count(0), 5);
    }

    public static void main(String[] args) {
        acts();
        noActs();
        undoOfNone();
        sixteen();
        ring();
        lastCall();
        undoIsNoAct();
        undoOfCovered();
        count();
        end();
    }
}
