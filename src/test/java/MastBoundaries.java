/** The boundary cases of promises 22 to 29, and of the term THE MAST. */
public final class MastBoundaries extends Check {

    /** One SET sail over the whole mast, 10 broad: TWICE the area of each strip is 20. */
    private static void whole(SailLoft x) {
        x.sail(0, 10, 0, 10, 60);
        x.cut(0, 20, 1);
        x.set(0, true);
    }

    private static Scene windy(int push) {
        return x -> {
            whole(x);
            for (int y = 0; y < 60; y++) {
                x.wind(y, push);
            }
        };
    }

    // ---- promise 22 ----

    private static void mast() {
        range("mast, height", Lofts::mixed, (x, v) -> bit(x.mast(v, 7)), 0, 60, 1, 0);
        range("mast, load", Lofts::mixed, (x, v) -> bit(x.mast(3, v)), 0, 2000000000, 1, 0);
        refused("mast, height and load", Lofts::mixed, x -> bit(x.mast(61, -1)), 0);
        SailLoft x = made(windy(1));
        for (int k : new int[] {0, 1, 59, 60}) {
            int most = k == 0 || k == 60 ? 5 : 10;
            due("mast at " + k + " with what it bears", x.mast(k, most), true);
            due("bears it", x.bears(), -1);
            due("mast at " + k + " with less", x.mast(k, most - 1), true);
            due("breaks there", x.bears(), k);
            due("mast at " + k + " with 0", x.mast(k, 0), true);
            due("breaks there, too", x.bears(), k);
            due("mast at " + k + " with the most", x.mast(k, 2000000000), true);
            due("bears again", x.bears(), -1);
        }
        due("none of these is an act", x.count(2), 3);
        due("mast with the load that it has", x.mast(0, 2000000000), true);
        isNoAct("mast", l -> bit(l.mast(3, 0)));
    }

    // ---- promise 23 ----

    private static void wind() {
        range("wind, strip", Lofts::mixed, (x, v) -> bit(x.wind(v, 7)), 0, 59, 1, 0);
        range("wind, push", Lofts::mixed, (x, v) -> bit(x.wind(3, v)), 0, 1000, 1, 0);
        refused("wind, strip and push", Lofts::mixed, x -> bit(x.wind(60, -1)), 0);
        SailLoft x = made(MastBoundaries::whole);
        for (int y : new int[] {0, 1, 58, 59}) {
            for (int push : new int[] {1, 999, 1000}) {
                due("wind at " + y, x.wind(y, push), true);
                due("push below it", x.push(y), 20 * push);
                due("push above it", x.push(y + 1), 20 * push);
            }
            due("no wind at " + y, x.wind(y, 0), true);
            due("no push below it", x.push(y), 0);
        }
        due("none of these is an act", x.count(2), 3);
        due("the wind that there is", x.wind(0, 0), true);
        isNoAct("wind", l -> bit(l.wind(3, 1000)));
    }

    private static void isNoAct(String name, Call call) {
        SailLoft x = made(Lofts::mixed);
        call.on(x);
        long push = x.push(3);
        int breaks = x.bears();
        due(name + " is no act", x.count(2), 16);
        due(name + ", the latest act is undone", x.undo(), true);
        due(name + ", which was the taking", x.told(2, 0), 1);
        due(name + ", the wind stays", x.push(3), push);
        due(name + ", the mast stays", x.bears(), breaks);
    }

    // ---- promise 24 ----

    private static void set() {
        answers("set", both(Lofts::mixed, x -> x.set(0, false)), x -> bit(x.set(0, true)), 1);
        answers("set no more", Lofts::mixed, x -> bit(x.set(0, false)), 1);
        refused("set what is SET", Lofts::mixed, x -> bit(x.set(0, true)), 0);
        refused("set no more what isn't", both(Lofts::mixed, x -> x.set(0, false)), x -> bit(x.set(0, false)), 0);
        refused("set no more what is new", Lofts.square(8), x -> bit(x.set(0, false)), 0);
        for (boolean is : new boolean[] {true, false}) {
            noSuch("set " + is + ", sail", Lofts::mixed, (x, v) -> bit(x.set(v, is)), 2, 0);
            refused("set an OPEN sail " + is, Lofts::mixed, x -> bit(x.set(1, is)), 0);
            refused("set a TAKEN sail " + is, Lofts::mixed, x -> bit(x.set(2, is)), 0);
        }
        SailLoft x = made(Lofts::mixed);
        due("told", x.told(0, 5), 1);
        x.set(0, false);
        due("told no more", x.told(0, 5), 0);
        due("no push", x.push(3), 0);
        due("the reef stays", x.told(0, 4), 1);
        x.set(0, true);
        due("push again", x.push(3), 140);
        answers("set what isn't laid", Lofts.square(8), l -> bit(l.set(0, true)), 1);
    }

    // ---- promise 25 ----

    private static void reef() {
        range("reef, line", Lofts::mixed, (x, v) -> bit(x.reef(0, v)), 0, 8, 1, 0);
        range("reef of height 1, line", both(Lofts.onePanel(1), x -> x.patch(0, 0, 1, 1)),
                (x, v) -> bit(x.reef(0, v)), 1, 1, 1, 0);
        refused("reef where it is", Lofts::mixed, x -> bit(x.reef(0, 1)), 0);
        refused("reef at 0 at first", Lofts.square(8), x -> bit(x.reef(0, 0)), 0);
        refused("reef at H where it is", both(Lofts.square(8), x -> x.reef(0, 8)), x -> bit(x.reef(0, 8)), 0);
        noSuch("reef, sail", Lofts::mixed, (x, v) -> bit(x.reef(v, 2)), 2, 0);
        refused("reef of an OPEN sail", Lofts::mixed, (x, v) -> bit(x.reef(1, v)), 0, 0, 1, 3);
        refused("reef of a TAKEN sail", Lofts::mixed, (x, v) -> bit(x.reef(2, v)), 0, 0, 1, 3);
        answers("reef of what isn't SET", Lofts.square(8), x -> bit(x.reef(0, 1)), 1);
        answers("reef between its lines", Lofts::mixed, x -> bit(x.reef(0, 5)), 1);
        SailLoft x = made(Lofts::mixed);
        for (int line : new int[] {0, 8, 7, 1}) {
            x.reef(0, line);
            due("told", x.told(0, 4), line);
        }
    }

    // ---- promise 26 ----

    private static void line() {
        answers("line at 1", Lofts.open(8), x -> x.line(0, 1), 1);
        answers("line at H", Lofts.open(8), x -> x.line(0, 8), 1);
        refused("line", Lofts.open(8), (x, v) -> x.line(0, v), -1, 0, -1, 9, Integer.MIN_VALUE, Integer.MAX_VALUE);
        answers("line at H of a CUT sail", Lofts::mixed, x -> x.line(0, 8), 2);
        answers("line right above the one before", Lofts::mixed, x -> x.line(0, 3), 2);
        refused("line not above the one before", Lofts::mixed, (x, v) -> x.line(0, v), -1, 2, 1, 0, -1);
        refused("line above a CUT sail", Lofts::mixed, (x, v) -> x.line(0, v), -1, 9, 60, 61);
        answers("line of an OPEN sail", Lofts::mixed, x -> x.line(1, 4), 2);
        refused("line of an OPEN sail", Lofts::mixed, (x, v) -> x.line(1, v), -1, 3, 7);
        refused("line of a TAKEN sail", Lofts::mixed, (x, v) -> x.line(2, v), -1, 1, 2, 3, 4);
        noSuch("line, sail", Lofts::mixed, (x, v) -> x.line(v, 5), 2, -1);
        for (int lines = 1; lines <= 4; lines++) {
            int n = lines;
            answers("line " + n, x -> {
                x.sail(0, 10, 0, 10, 60);
                for (int y = 1; y < n; y++) {
                    x.line(0, y);
                }
            }, x -> x.line(0, 60), n < 4 ? n : -1);
        }
        Scene full = both(Lofts.square(8), x -> {
            x.line(0, 1);
            x.line(0, 2);
            x.line(0, 3);
        });
        refused("a fourth line", full, (x, v) -> x.line(0, v), -1, 4, 8);
        refused("a wrong fourth line", full, (x, v) -> x.line(0, v), -1, 0, 3, 9);
        answers("the third again when it is undone", both(full, x -> x.undo()), x -> x.line(0, 8), 3);
        refused("a line behind one at H", both(Lofts.open(8), x -> x.line(0, 8)), x -> x.line(0, 8), -1);
        answers("a line below the reef", both(Lofts.square(8), x -> x.reef(0, 5)), x -> x.line(0, 2), 1);
    }

    // ---- promise 27 ----

    private static void push() {
        noSuch("push, height", Lofts::mixed, (x, v) -> x.push(v), 60, -1);
        int[] dues = {0, 40, 100, 140, 180, 220, 260, 300, 160, 0, 0};
        for (int k = 0; k < dues.length; k++) {
            int h = k;
            answers("push of the mixed loft at " + h, Lofts::mixed, x -> x.push(h), dues[h]);
        }
        unchanged("push", Lofts::mixed, x -> x.push(3));
        answers("push at the foot", windy(1), x -> x.push(0), 20);
        answers("push at 1", windy(1), x -> x.push(1), 40);
        answers("push at 59", windy(1), x -> x.push(59), 40);
        answers("push at 60", windy(1), x -> x.push(60), 20);
        pushAboveLowSail();
        pushOfReefs();
        pushOfMany();
    }

    private static void pushAboveLowSail() {
        SailLoft x = made(Lofts.onePanel(1));
        x.set(0, true);
        for (int y = 0; y < 60; y++) {
            x.wind(y, 1000);
        }
        int[] dues = {20000, 20000, 0, 0};
        for (int k = 0; k < dues.length; k++) {
            due("push of a sail of height 1 at " + k, x.push(k), dues[k]);
        }
        due("push of it at 60", x.push(60), 0);
    }

    private static void pushOfReefs() {
        for (int line : new int[] {1, 2, 30, 59, 60}) {
            SailLoft x = made(windy(1));
            x.reef(0, line);
            for (int k = 0; k <= 60; k++) {
                int below = k - 1 >= line ? 20 : 0;
                int above = k >= line && k < 60 ? 20 : 0;
                due("push at " + k + " with a reef at " + line, x.push(k), below + above);
            }
        }
    }

    private static void pushOfMany() {
        SailLoft x = new SailLoft();
        for (int s = 0; s < 10; s++) {
            x.sail(0, 10 + s, 0, 10 + s, s + 1);
            x.cut(s, 20, 1);
            x.set(s, s != 4);
        }
        x.wind(9, 3);
        due("push above all but the last", x.push(10), 3 * 38);
        due("push beside it", x.push(9), 3 * 38);
        x.wind(8, 1);
        due("push of the last two", x.push(9), 3 * 38 + 38 + 36);
        x.wind(4, 1);
        due("push without what isn't SET", x.push(5), 30 + 32 + 34 + 36 + 38);
        x.set(4, true);
        due("push with it", x.push(5), 28 + 30 + 32 + 34 + 36 + 38);
    }

    // ---- promise 28 ----

    private static void bears() {
        answers("bears of the mixed loft", Lofts::mixed, x -> x.bears(), 3);
        unchanged("bears", Lofts::mixed, x -> x.bears());
        answers("bears exactly four times", both(Lofts::mixed, x -> x.mast(3, 35)), x -> x.bears(), -1);
        answers("bears, no wind and no load", x -> {
            whole(x);
            for (int k = 0; k <= 60; k++) {
                x.mast(k, 0);
            }
        }, x -> x.bears(), -1);
        for (int k : new int[] {0, 1, 59, 60}) {
            answers("bears, the first of all at " + k, both(windy(1), x -> {
                for (int h = k; h <= 60; h++) {
                    x.mast(h, 0);
                }
            }), x -> x.bears(), k);
        }
        // PUSH is one above four times the LOAD, and one below.
        Scene odd = x -> {
            x.sail(0, 1, 0, 2, 1);
            x.cut(0, 2, 1);
            x.set(0, true);
            x.wind(0, 3);
        };
        answers("push is 9", odd, x -> x.push(0), 9);
        answers("bears 9 quarters with 2", both(odd, x -> x.mast(0, 2)), x -> x.bears(), 0);
        answers("bears 9 quarters with 3", both(odd, x -> x.mast(0, 3)), x -> x.bears(), -1);
        answers("bears with a load whose four times are more than an int", both(odd, x -> x.mast(0, 1073741824)),
                x -> x.bears(), -1);
        answers("bears with a load whose four times wrap", both(odd, x -> x.mast(0, 536870912)), x -> x.bears(), -1);
    }

    // ---- promise 29 ----

    private static void least() {
        answers("least of the mixed loft", Lofts::mixed, x -> x.least(), -1);
        unchanged("least that is NONE", Lofts::mixed, x -> x.least());
        answers("least when nothing breaks", both(Lofts::mixed, x -> x.mast(3, 35)), x -> x.least(), 0);
        Scene lower = both(Lofts::mixed, x -> {
            x.mast(3, 1000);
            x.mast(1, 9);
        });
        answers("least with one reef", lower, x -> x.least(), 1);
        unchanged("least with one reef", lower, x -> x.least());
        answers("least without reef lines", both(windy(1), x -> x.mast(0, 0)), x -> x.least(), -1);
        answers("least with a line at the reef", both(windy(1), x -> {
            x.mast(30, 0);
            x.line(0, 20);
            x.reef(0, 20);
        }), x -> x.least(), -1);
        leastLine();
        leastRounds();
        leastOfAll();
        leastOfWhatIsSet();
    }

    /** A height k is free of push when the reef is above both its strips. */
    private static void leastLine() {
        for (int line : new int[] {29, 30, 31, 32}) {
            Scene scene = both(windy(1), x -> {
                x.mast(30, 0);
                x.line(0, line);
            });
            answers("least with a line at " + line, scene, x -> x.least(), line > 30 ? 1 : -1);
        }
        answers("least with a line at H", both(windy(1), x -> {
            x.mast(60, 0);
            x.line(0, 60);
        }), x -> x.least(), 1);
        answers("least with a line one below H", both(windy(1), x -> {
            x.mast(60, 0);
            x.line(0, 59);
        }), x -> x.least(), -1);
        int[] reefs = {0, 9, 10, 19, 20, 30, 31, 40};
        int[] dues = {3, 3, 2, 2, 1, 1, 0, -1};
        for (int n = 0; n < reefs.length; n++) {
            int reef = reefs[n];
            answers("least from a reef at " + reef, both(windy(1), x -> {
                x.mast(30, 0);
                if (reef == 40) {
                    x.mast(50, 0);
                }
                x.line(0, 10);
                x.line(0, 20);
                x.line(0, 40);
                x.reef(0, reef);
            }), x -> x.least(), dues[n]);
        }
    }

    /** Three sails with 3, 1 and 2 lines: the reefs come as sails 0 1 2, 0 2, 0. */
    private static void leastRounds() {
        Scene scene = x -> {
            int[][] lines = {{1, 2, 3}, {3}, {1, 3}};
            for (int s = 0; s < 3; s++) {
                x.sail(0, 1 << s, 0, 1 << s, 4);
                x.cut(s, 20, 1);
                x.set(s, true);
                for (int y : lines[s]) {
                    x.line(s, y);
                }
            }
            x.wind(2, 2);
        };
        // Strip 2 is pushed by 1, 2 and 4 times 4; its reefs are the sixth, the second and the fifth.
        int[] loads = {7, 6, 5, 4, 2, 1, 0};
        int[] dues = {0, 2, 2, 5, 5, 5, 6};
        for (int n = 0; n < loads.length; n++) {
            int load = loads[n];
            answers("least with a load of " + load, both(scene, x -> x.mast(2, load)), x -> x.least(), dues[n]);
        }
        unchanged("least of three sails", both(scene, x -> x.mast(2, 0)), x -> x.least());
    }

    private static void leastOfAll() {
        Scene all = x -> {
            for (int s = 0; s < 10; s++) {
                x.sail(0, 1, 0, 1, 4);
                x.cut(s, 20, 1);
                x.set(s, true);
                for (int y = 1; y <= 3; y++) {
                    x.line(s, y);
                }
            }
            x.wind(2, 2);
            x.wind(3, 2);
        };
        answers("least, all 30 reefs", both(all, x -> x.mast(2, 0)), x -> x.least(), 30);
        answers("least, all but one", both(all, x -> x.mast(2, 1)), x -> x.least(), 29);
        answers("least, the third round's first", both(all, x -> x.mast(2, 9)), x -> x.least(), 21);
        answers("least, not with all", both(all, x -> x.mast(4, 9)), x -> x.least(), -1);
        answers("least, not needed", both(all, x -> x.mast(4, 10)), x -> x.least(), 0);
    }

    private static void leastOfWhatIsSet() {
        Scene scene = x -> {
            for (int s = 0; s < 3; s++) {
                x.sail(0, 10, 0, 10, 4);
                x.cut(s, 20, 1);
                x.set(s, s != 0);
                x.line(s, 4);
            }
            x.wind(0, 1);
            x.mast(0, 5);
        };
        answers("least passes by what isn't SET", scene, x -> x.least(), 1);
        answers("least passes by it again", both(scene, x -> x.mast(0, 0)), x -> x.least(), 2);
        answers("least with all SET", both(scene, x -> {
            x.set(0, true);
            x.mast(0, 0);
        }), x -> x.least(), 3);
        answers("least with none SET", both(scene, x -> {
            x.set(1, false);
            x.set(2, false);
            x.mast(0, 0);
        }), x -> x.least(), 0);
    }

    public static void main(String[] args) {
        mast();
        wind();
        set();
        reef();
        line();
        push();
        bears();
        least();
        end();
    }
}
