/** The boundary cases of promises 16, 17, 20, 21 and 30, and of the term LAYING. */
public final class LayingBoundaries extends Check {

    // ---- promise 16 ----

    private static void lay() {
        range("lay, place", Lofts::mixed, (x, v) -> bit(x.lay(0, 1, 1, v, 100)), 0, 15, 1, 0);
        range("lay, worn", Lofts::mixed, (x, v) -> bit(x.lay(0, 1, 1, 10, v)), 0, 100, 1, 0);
        refused("lay, panel", Lofts::mixed, (x, v) -> bit(x.lay(0, v, 1, 10, 0)), 0, -1, 3,
                Integer.MIN_VALUE, Integer.MAX_VALUE);
        noSuch("lay, bolt", Lofts::mixed, (x, v) -> bit(x.lay(0, 1, v, 10, 0)), 3, 0);
        noSuch("lay, sail", Lofts::mixed, (x, v) -> bit(x.lay(v, 0, 1, 10, 0)), 2, 0);
        refused("lay of an OPEN sail", Lofts::mixed, x -> bit(x.lay(1, 0, 1, 10, 0)), 0);
        refused("lay of a TAKEN sail", Lofts::mixed, x -> bit(x.lay(2, 0, 1, 10, 0)), 0);
        refused("lay what is laid", Lofts::mixed, (x, v) -> bit(x.lay(0, 0, 1, v, 0)), 0, 10, 15);
        refused("lay what is laid where it is", Lofts::mixed, x -> bit(x.lay(0, 0, 0, 20, 0)), 0);
        refused("lay what is laid beside it", Lofts::mixed, x -> bit(x.lay(0, 0, 0, 0, 100)), 0);
        breadths();
        lengths();
        beside();
        wornPlaces();
    }

    private static void breadths() {
        refused("lay a breadth of 5 on a width of 4", Lofts::mixed, x -> bit(x.lay(0, 1, 2, 10, 0)), 0);
        for (int breadth : new int[] {1, 2, 3, 19, 20}) {
            Scene patched = both(Lofts.onePanel(1), x -> x.patch(0, 0, breadth, 5));
            for (int width : new int[] {2, 3, 18, 19, 20}) {
                Scene scene = both(patched, x -> x.bolt(width, 5, ONE));
                String name = "lay a breadth of " + breadth + " on " + width;
                if (breadth <= width) {
                    answers(name, scene, x -> bit(x.lay(0, 1, 0, 0, 0)), 1);
                } else {
                    refused(name, scene, x -> bit(x.lay(0, 1, 0, 0, 0)), 0);
                }
            }
        }
    }

    private static void lengths() {
        Scene panel = Lofts.onePanel(4);
        answers("lay on a bolt as long as it is", both(panel, x -> x.bolt(5, 10, ONE)),
                x -> bit(x.lay(0, 0, 0, 0, 0)), 1);
        refused("lay on one a place longer", both(panel, x -> x.bolt(5, 10, ONE)),
                (x, v) -> bit(x.lay(0, 0, 0, v, 0)), 0, -1, 1);
        refused("lay on a bolt that is too short", both(panel, x -> x.bolt(5, 9, ONE)),
                (x, v) -> bit(x.lay(0, 0, 0, v, 0)), 0, -1, 0, 1);
        range("lay on 200, place", both(panel, x -> x.bolt(5, 200, ONE)),
                (x, v) -> bit(x.lay(0, 0, 0, v, 0)), 0, 190, 1, 0);
        answers("lay a length of 200", x -> {
            x.sail(0, 200, 0, 200, 1);
            x.cut(0, 2, 1);
            x.bolt(2, 200, ONE);
        }, x -> bit(x.lay(0, 0, 0, 0, 0)), 1);
        Scene longest = x -> {
            x.sail(0, 201, 0, 201, 1);
            x.cut(0, 2, 1);
            x.bolt(2, 200, ONE);
        };
        refused("lay a length of 201", longest, (x, v) -> bit(x.lay(0, 0, 0, v, 100)), 0, -1, 0, 1);
        answers("lay a length of 1 at the last place", both(panel, x -> {
            x.patch(0, 0, 1, 1);
            x.bolt(2, 200, ONE);
        }), x -> bit(x.lay(0, 1, 0, 199, 0)), 1);
    }

    /** Panel 0 lies from 10 to 19. */
    private static void beside() {
        Scene laid = both(Lofts.square(12), x -> {
            x.bolt(5, 30, ONE);
            x.lay(0, 0, 0, 10, 0);
        });
        answers("lay right ahead of it", laid, x -> bit(x.lay(0, 1, 0, 0, 0)), 1);
        answers("lay right behind it", laid, x -> bit(x.lay(0, 1, 0, 20, 0)), 1);
        refused("lay over it", laid, (x, v) -> bit(x.lay(0, 1, 0, v, 100)), 0, 1, 9, 10, 11, 19);
        Scene patched = both(laid, x -> x.patch(0, 0, 1, 1));
        answers("lay one place ahead of it", patched, x -> bit(x.lay(0, 3, 0, 9, 0)), 1);
        answers("lay one place behind it", patched, x -> bit(x.lay(0, 3, 0, 20, 0)), 1);
        refused("lay one place on it", patched, (x, v) -> bit(x.lay(0, 3, 0, v, 0)), 0, 10, 15, 19);
        answers("lay where it was", both(laid, x -> x.lift(0, 0)), x -> bit(x.lay(0, 1, 0, 10, 0)), 1);
        Scene other = both(laid, x -> {
            x.sail(0, 10, 0, 10, 4);
            x.cut(1, 5, 1);
        });
        refused("lay another sail's on it", other, x -> bit(x.lay(1, 0, 0, 10, 0)), 0);
        SailLoft x = made(laid);
        x.lay(0, 1, 0, 0, 0);
        x.lay(0, 2, 0, 20, 0);
        int[] overs = {1, 1, 0, 0, 2, 2};
        int[] places = {0, 9, 10, 19, 20, 29};
        for (int n = 0; n < places.length; n++) {
            due("over place " + places[n], x.over(0, places[n]), overs[n]);
        }
    }

    /** Place 12 of bolt 0 is worn 40; a panel is 10 long. */
    private static void wornPlaces() {
        Scene worn = both(Lofts.onePanel(4), x -> {
            x.bolt(5, 30, ONE);
            x.row(0, 20);
            x.wear(0, 12, 40);
        });
        for (int place : new int[] {3, 7, 12}) {
            refused("lay on a place worn more, from " + place, worn,
                    (x, v) -> bit(x.lay(0, 0, 0, place, v)), 0, 0, 39);
            answers("lay on a place worn as told, from " + place, worn, x -> bit(x.lay(0, 0, 0, place, 40)), 1);
            answers("lay on a place worn less, from " + place, worn, x -> bit(x.lay(0, 0, 0, place, 100)), 1);
        }
        answers("lay right ahead of the worn place", worn, x -> bit(x.lay(0, 0, 0, 2, 0)), 1);
        answers("lay right behind the worn place", worn, x -> bit(x.lay(0, 0, 0, 13, 39)), 1);
        answers("lay where the ROW has ended", worn, x -> bit(x.lay(0, 0, 0, 20, 0)), 1);
        Scene most = both(worn, x -> x.wear(0, 12, 100));
        answers("worn 100, 100 at most", most, x -> bit(x.lay(0, 0, 0, 12, 100)), 1);
        refused("worn 100, 99 at most", most, x -> bit(x.lay(0, 0, 0, 12, 99)), 0);
        refused("worn 100, 101 at most", most, x -> bit(x.lay(0, 0, 0, 12, 101)), 0);
        answers("worn 0, 0 at most", worn, x -> bit(x.lay(0, 0, 0, 0, 0)), 1);
    }

    // ---- promise 17 ----

    private static void lift() {
        answers("lift", Lofts::mixed, x -> bit(x.lift(0, 0)), 1);
        refused("lift what isn't laid", Lofts::mixed, (x, v) -> bit(x.lift(0, v)), 0, 1, 2);
        refused("lift, panel", Lofts::mixed, (x, v) -> bit(x.lift(0, v)), 0, -1, 3,
                Integer.MIN_VALUE, Integer.MAX_VALUE);
        noSuch("lift, sail", Lofts::mixed, (x, v) -> bit(x.lift(v, 0)), 2, 0);
        refused("lift of an OPEN sail", Lofts::mixed, x -> bit(x.lift(1, 0)), 0);
        refused("lift of a TAKEN sail", Lofts::mixed, x -> bit(x.lift(2, 0)), 0);
        refused("lift twice", both(Lofts::mixed, x -> x.lift(0, 0)), x -> bit(x.lift(0, 0)), 0);
        SailLoft x = made(Lofts::mixed);
        x.lift(0, 0);
        due("no bolt any more", x.panel(0, 0, 6), -1);
        due("no place any more", x.panel(0, 0, 7), -1);
        due("no weight any more", x.panel(0, 0, 8), 0);
        due("left all", x.left(0), 30);
        due("its first place", x.over(0, 20), -1);
        due("its last place", x.over(0, 29), -1);
        due("what was worn stays so", x.worn(0, 12), 40);
        due("lay it at an end", x.lay(0, 2, 0, 27, 0), true);
        due("lift a patch", x.lift(0, 2), true);
        due("left all again", x.left(0), 30);
    }

    // ---- promise 20 ----

    private static void plan() {
        refused("plan, worn", Lofts::mixed, (x, v) -> x.plan(v), -2, -1, 101, Integer.MIN_VALUE, Integer.MAX_VALUE);
        refused("plan of nothing, worn", Lofts::empty, (x, v) -> x.plan(v), -2, -1, 101);
        answers("plan, worn 0", Lofts::mixed, x -> x.plan(0), -1);
        answers("plan, worn 100", Lofts::mixed, x -> x.plan(100), -1);
        refused("plan of nothing", Lofts::empty, x -> x.plan(100), -1);
        refused("plan of an OPEN sail", both(Lofts.open(4), x -> x.bolt(20, 200, ONE)), x -> x.plan(100), -1);
        refused("plan when all is laid", both(Lofts::mixed, x -> x.plan(0)), x -> x.plan(0), -1);
        refused("plan without a bolt", Lofts.square(8), x -> x.plan(100), 0);
        refused("plan without a bolt that is wide enough", both(Lofts.square(8), x -> x.bolt(4, 200, ONE)),
                x -> x.plan(100), 0);
        refused("plan without a bolt that is long enough", both(Lofts.square(8), x -> x.bolt(20, 9, ONE)),
                x -> x.plan(100), 0);
        plannedByNumbers();
        leastPlace();
        planThatEndsAhead();
        planOfTheLast();
        planIsOneAct();
    }

    private static void plannedByNumbers() {
        SailLoft x = made(Lofts::mixed);
        due("plan of the mixed loft", x.plan(39), -1);
        due("panel 1: bolt 0 takes it ahead of the worn place", x.panel(0, 1, 6), 0);
        due("at its first place", x.panel(0, 1, 7), 0);
        due("the patch: bolt 0, too", x.panel(0, 2, 6), 0);
        due("behind the panel there are 2 places: it goes behind the worn one", x.panel(0, 2, 7), 13);
        due("what was laid stays", x.panel(0, 0, 7), 20);
        x = made(Lofts::mixed);
        due("plan with worn as told", x.plan(40), -1);
        due("the patch goes over the worn place", x.panel(0, 2, 7), 10);
        x = made(Lofts::mixed);
        x.sail(0, 10, 0, 10, 4);
        x.cut(3, 5, 1);
        x.cut(1, 20, 1);
        due("by sails, then by i: sail 1 is too broad", x.plan(0), 100);
        due("sail 0 came ahead", x.panel(0, 2, 6), 0);
        due("sail 3 comes behind", x.panel(3, 0, 6), -1);
        x = made(Lofts.square(4));
        x.bolt(20, 200, ONE);
        x.bolt(5, 10, ONE);
        due("plan, the first bolt takes it though the second fits better", x.plan(0), -1);
        due("it is the first", x.panel(0, 0, 6), 0);
    }

    /** Gaps of 9, 10 and 11 places in this order: the least place that takes it is the second gap's. */
    private static void leastPlace() {
        SailLoft x = made(Lofts.onePanel(4));
        for (int n = 0; n < 3; n++) {
            x.patch(0, 0, 1, 1);
        }
        x.bolt(5, 33, ONE);
        x.lay(0, 1, 0, 9, 0);
        x.lay(0, 2, 0, 20, 0);
        x.lay(0, 3, 0, 32, 0);
        due("plan into a gap", x.plan(0), -1);
        due("the first that takes it", x.panel(0, 0, 7), 10);
        x.lift(0, 0);
        x.lift(0, 1);
        due("plan again", x.plan(0), -1);
        due("at the very first place", x.panel(0, 0, 7), 0);
        due("the patch behind it", x.panel(0, 1, 7), 10);
        x = made(Lofts.onePanel(4));
        x.bolt(5, 30, ONE);
        x.row(0, 30);
        x.wear(0, 0, 1);
        x.wear(0, 19, 1);
        due("plan between worn places", x.plan(0), -1);
        due("right behind the first", x.panel(0, 0, 7), 1);
        x.undo();
        x.wear(0, 10, 1);
        due("plan behind worn places", x.plan(0), -1);
        due("the last place that there is", x.panel(0, 0, 7), 20);
        x.undo();
        x.wear(0, 20, 1);
        due("no place is left", x.plan(0), 0);
        due("unless it may be worn", x.plan(1), -1);
        due("at the first place then", x.panel(0, 0, 7), 0);
    }

    private static void planThatEndsAhead() {
        SailLoft x = made(Lofts.square(12));
        x.patch(0, 0, 1, 1);
        x.bolt(5, 20, ONE);
        due("the third finds none", x.plan(0), 2);
        due("what came ahead stays laid", x.left(0), 0);
        due("the first", x.panel(0, 0, 7), 0);
        due("the second", x.panel(0, 1, 7), 10);
        due("the third", x.panel(0, 2, 7), -1);
        int acts = x.count(2);
        due("the third finds none again", x.plan(0), 2);
        due("which is no act", x.count(2), acts);
        x.lift(0, 0);
        x.bolt(2, 1, ONE);
        due("the first, then the third finds none", x.plan(0), 2);
        due("the patch behind it isn't laid, though a bolt would take it", x.panel(0, 3, 6), -1);
        due("left for it", x.left(1), 1);
    }

    private static void planOfTheLast() {
        SailLoft x = made(Lofts::empty);
        for (int s = 0; s < 10; s++) {
            x.sail(0, 5, 0, 5, 40);
        }
        x.cut(9, 2, 1);
        x.bolt(2, 195, ONE);
        due("the last panel of the last sail", x.plan(0), 939);
        x.bolt(2, 5, ONE);
        due("all is laid then", x.plan(0), -1);
        due("on the second bolt", x.panel(9, 39, 6), 1);
        due("no place is left", x.left(0) + x.left(1), 0);
    }

    private static void planIsOneAct() {
        SailLoft x = made(Lofts.square(12));
        x.bolt(5, 30, ONE);
        int acts = x.count(2);
        due("plan of three", x.plan(0), -1);
        due("one act", x.count(2), acts + 1);
        due("undone", x.undo(), true);
        due("all of it", x.left(0), 30);
        for (int i = 0; i < 3; i++) {
            due("no bolt", x.panel(0, i, 6), -1);
        }
        x.lay(0, 1, 0, 15, 0);
        due("plan about one", x.plan(0), 2);
        due("undone, too", x.undo(), true);
        due("what was laid ahead of it stays", x.panel(0, 1, 7), 15);
        due("left then", x.left(0), 20);
    }

    // ---- promise 21 ----

    private static void fewest() {
        noSuch("fewest, worn", Lofts::mixed, (x, v) -> x.fewest(0, v), 100, -1);
        noSuch("fewest of none, worn", both(Lofts::mixed, x -> x.plan(0)), (x, v) -> x.fewest(0, v), 100, -1);
        noSuch("fewest, sail", Lofts::mixed, (x, v) -> x.fewest(v, 0), 2, -1);
        refused("fewest of an OPEN sail", Lofts::mixed, x -> x.fewest(1, 0), -1);
        refused("fewest of a TAKEN sail", Lofts::mixed, x -> x.fewest(2, 0), -1);
        refused("fewest", Lofts::mixed, x -> x.fewest(0, 100), 1);
        answers("fewest of none", both(Lofts::mixed, x -> x.plan(0)), x -> x.fewest(0, 0), 0);
        answers("fewest without bolts", Lofts.square(8), x -> x.fewest(0, 100), -1);
        fewestWornEverywhere();
        fewestOfFreeBolts();
        fewestWidths();
        fewestOfEight();
        fewestOfMany();
    }

    private static void fewestWornEverywhere() {
        Scene worn = both(Lofts.onePanel(4), x -> {
            x.bolt(5, 30, ONE);
            x.row(0, 30);
        });
        for (int place : new int[] {0, 15, 29}) {
            Scene scene = both(worn, x -> x.wear(0, place, 50));
            answers("fewest, worn more at " + place, scene, x -> x.fewest(0, 49), -1);
            answers("fewest, worn as told at " + place, scene, x -> x.fewest(0, 50), 1);
            answers("fewest, worn less at " + place, scene, x -> x.fewest(0, 100), 1);
        }
        answers("fewest, worn 0", worn, x -> x.fewest(0, 0), 1);
        Scene most = both(worn, x -> x.wear(0, 29, 100));
        answers("fewest, worn 100 and 99 told", most, x -> x.fewest(0, 99), -1);
        answers("fewest, worn 100 and 100 told", most, x -> x.fewest(0, 100), 1);
    }

    private static void fewestOfFreeBolts() {
        Scene patched = both(Lofts.onePanel(4), x -> {
            x.bolt(5, 200, ONE);
            x.patch(0, 0, 1, 1);
            x.lay(0, 1, 0, 199, 0);
        });
        answers("fewest where something lies on the bolt", patched, x -> x.fewest(0, 100), -1);
        answers("fewest when it is lifted", both(patched, x -> x.lift(0, 1)), x -> x.fewest(0, 100), 1);
        Scene old = both(Lofts::mixed, x -> {
            x.sail(0, 4, 0, 4, 3);
            x.cut(3, 4, 1);
        });
        answers("fewest on an old bolt", old, x -> x.fewest(3, 0), 1);
        Scene without = both(old, x -> {
            x.lay(0, 2, 3, 0, 0);
            x.lay(0, 1, 1, 10, 0);
        });
        answers("fewest when something lies on every bolt", without, x -> x.fewest(3, 100), -1);
    }

    private static void fewestWidths() {
        answers("fewest, the bolt as broad and long", both(Lofts.onePanel(4), x -> x.bolt(5, 10, ONE)),
                x -> x.fewest(0, 0), 1);
        answers("fewest, the bolt too small in width", both(Lofts.onePanel(4), x -> x.bolt(4, 200, ONE)),
                x -> x.fewest(0, 0), -1);
        answers("fewest, the bolt too short", both(Lofts.onePanel(4), x -> x.bolt(20, 9, ONE)),
                x -> x.fewest(0, 0), -1);
        answers("fewest, two on a bolt as long", both(Lofts.square(8), x -> x.bolt(5, 20, ONE)),
                x -> x.fewest(0, 0), 1);
        answers("fewest, two on a bolt too short", both(Lofts.square(8), x -> x.bolt(5, 19, ONE)),
                x -> x.fewest(0, 0), -1);
        answers("fewest, two on two", both(Lofts.square(8), x -> {
            x.bolt(5, 19, ONE);
            x.bolt(5, 10, ONE);
        }), x -> x.fewest(0, 0), 2);
        Scene three = both(Lofts.square(12), x -> {
            for (int n = 0; n < 3; n++) {
                x.bolt(5, 10, ONE);
            }
        });
        answers("fewest, three on three", three, x -> x.fewest(0, 0), 3);
        answers("fewest, three on two behind three", both(three, x -> x.bolt(5, 20, ONE)), x -> x.fewest(0, 0), 2);
        answers("fewest, three on one behind three", both(three, x -> x.bolt(5, 30, ONE)), x -> x.fewest(0, 0), 1);
        answers("fewest, one takes all behind two that take one each", both(Lofts.square(8), x -> {
            x.bolt(5, 19, ONE);
            x.bolt(5, 10, ONE);
            x.bolt(5, 20, ONE);
        }), x -> x.fewest(0, 0), 1);
        Scene mixed = both(Lofts.onePanel(4), x -> {
            x.patch(0, 0, 1, 100);
            x.bolt(4, 100, ONE);
            x.bolt(5, 99, ONE);
        });
        answers("fewest, the narrow one is the long one", mixed, x -> x.fewest(0, 0), 2);
    }

    private static void fewestOfEight() {
        Scene eight = Lofts.square(32);
        Scene nine = Lofts.square(33);
        Scene bolt = x -> x.bolt(5, 200, ONE);
        answers("fewest of 8", both(eight, bolt), x -> x.fewest(0, 0), 1);
        refused("fewest of 9", both(nine, bolt), x -> x.fewest(0, 0), -1);
        answers("fewest of 9, one laid", both(both(nine, bolt), x -> {
            x.lay(0, 4, 0, 0, 0);
            x.bolt(5, 80, ONE);
        }), x -> x.fewest(0, 0), 1);
        answers("fewest of 8 and a patch", both(both(eight, bolt), x -> x.patch(0, 0, 1, 1)), x -> x.fewest(0, 0), -1);
        answers("fewest of 40", both(Lofts::allPanels, bolt), x -> x.fewest(0, 0), -1);
        answers("fewest of 40, all laid", both(both(Lofts::allPanels, bolt), x -> x.plan(0)), x -> x.fewest(0, 0), 0);
        for (int bolts = 7; bolts <= 9; bolts++) {
            int n = bolts;
            Scene small = both(eight, x -> {
                for (int b = 0; b < n; b++) {
                    x.bolt(5, 19, ONE);
                }
            });
            answers("fewest of 8 on " + n + " that take one each", small, x -> x.fewest(0, 0), n < 8 ? -1 : 8);
        }
        answers("fewest of 8, as long as they are", both(eight, x -> x.bolt(5, 80, ONE)), x -> x.fewest(0, 0), 1);
        answers("fewest of 8, a place too short", both(eight, x -> x.bolt(5, 79, ONE)), x -> x.fewest(0, 0), -1);
    }

    /** Of 24 bolts the last two fit best; pieces of 7, 6, 5, 4, 4, 3, 3, 2 go on 17 and 17, and on nothing shorter. */
    private static void fewestOfMany() {
        Scene pieces = x -> {
            x.sail(0, 7, 0, 7, 1);
            x.cut(0, 2, 1);
            for (int length : new int[] {6, 5, 4, 4, 3, 3, 2}) {
                x.patch(0, 0, 2, length);
            }
        };
        Scene bolts = both(pieces, x -> {
            for (int n = 0; n < 22; n++) {
                x.bolt(2, 7, ONE);
            }
        });
        answers("fewest on 22 short ones", bolts, x -> x.fewest(0, 0), 5);
        answers("fewest on 24", both(bolts, x -> {
            x.bolt(2, 17, ONE);
            x.bolt(2, 17, ONE);
        }), x -> x.fewest(0, 0), 2);
        answers("fewest, one a place shorter", both(bolts, x -> {
            x.bolt(2, 17, ONE);
            x.bolt(2, 16, ONE);
        }), x -> x.fewest(0, 0), 3);
        answers("fewest, both long ones and nothing else", both(pieces, x -> {
            x.bolt(2, 17, ONE);
            x.bolt(2, 16, ONE);
        }), x -> x.fewest(0, 0), -1);
    }

    // ---- promise 30 ----

    private static void take() {
        noSuch("take, sail", Lofts::mixed, (x, v) -> x.take(v), 2, -1);
        refused("take of an OPEN sail", Lofts::mixed, x -> x.take(1), -1);
        refused("take of a TAKEN sail", Lofts::mixed, x -> x.take(2), -1);
        refused("take when two aren't laid", Lofts::mixed, x -> x.take(0), -1);
        refused("take when the patch isn't laid", both(Lofts::mixed, x -> x.lay(0, 1, 1, 10, 0)), x -> x.take(0), -1);
        refused("take when a panel isn't laid", both(Lofts::mixed, x -> x.lay(0, 2, 1, 10, 0)), x -> x.take(0), -1);
        refused("take when the first isn't laid", both(Lofts::mixed, x -> {
            x.plan(0);
            x.lift(0, 0);
        }), x -> x.take(0), -1);
        answers("take when all is laid", both(Lofts::mixed, x -> x.plan(0)), x -> x.take(0), 3);
        becomesBolts();
        smallestPatch();
        longestPiece();
        fullOfTakenBolts();
        isTakenAway();
    }

    private static void becomesBolts() {
        SailLoft x = made(Lofts::mixed);
        x.lay(0, 1, 1, 10, 0);
        x.lay(0, 2, 2, 4, 0);
        due("take", x.take(0), 3);
        due("bolts", x.count(0), 7);
        int[] lengths = {10, 10, 3};
        for (int i = 0; i < 3; i++) {
            due("length of bolt " + (4 + i), x.left(4 + i), lengths[i]);
            due("it came from", x.old(4 + i), 0);
            due("it isn't worn", x.worn(4 + i, lengths[i] - 1), 0);
            due("it has no ROW", x.wear(4 + i, 0, 1), false);
            due("nothing lies on it", x.over(4 + i, 0), -1);
            due("the bolt it lay on stays told", x.panel(0, i, 6), i);
        }
        int[] overs = {0, 1, 2};
        int[] places = {20, 10, 4};
        for (int b = 0; b < 3; b++) {
            due("its place on bolt " + b + " stays its own", x.over(b, places[b]), overs[b]);
        }
        due("nothing is worn anew where it lies", x.row(1, 1), false);
        due("no place is laid twice", x.left(1), 15);
        gramsOfOldBolts(x);
    }

    /** Bolts 4 and 5 are of the first two bolts (1 gram), 6 of the third (2.5 grams). */
    private static void gramsOfOldBolts(SailLoft x) {
        int s = x.sail(0, 2, 0, 2, 1);
        x.cut(s, 2, 1);
        int[] dues = {2, 2, 5};
        for (int n = 0; n < 3; n++) {
            due("lay on old cloth", x.lay(s, 0, 4 + n, 0, 0), true);
            due("its weight there", x.panel(s, 0, 8), dues[n]);
            x.lift(s, 0);
        }
        int t = x.sail(0, 3, 0, 3, 2);
        x.cut(t, 3, 1);
        due("a breadth of 3 on the patch's cloth of 2", x.lay(t, 0, 6, 0, 0), false);
        due("on the panel's cloth of 5", x.lay(t, 0, 4, 7, 0), true);
    }

    private static void smallestPatch() {
        SailLoft x = made(Lofts.onePanel(1));
        x.patch(0, 0, 1, 1);
        x.bolt(2, 20, ONE);
        x.plan(0);
        due("take a panel and the smallest patch", x.take(0), 2);
        due("its length", x.left(2), 1);
        x.sail(0, 1, 0, 1, 1);
        x.cut(1, 2, 1);
        due("a breadth of 1 becomes a width of 2", x.lay(1, 0, 2, 0, 0), true);
        x.undo();
        x.undo();
        x.cut(1, 3, 2);
        due("and no more", x.lay(1, 0, 2, 0, 0), false);
    }

    private static void longestPiece() {
        SailLoft x = new SailLoft();
        x.sail(-100, 100, -100, 100, 19);
        x.cut(0, 20, 1);
        x.bolt(20, 200, ONE);
        x.plan(0);
        due("take the greatest that can be laid", x.take(0), 1);
        due("its length", x.left(1), 200);
        x.sail(-100, 100, -100, 100, 19);
        x.cut(1, 20, 1);
        due("its like lies on it", x.lay(1, 0, 1, 0, 0), true);
        due("take that, too", x.take(1), 1);
        due("from the second sail", x.old(2), 1);
        due("left of the first old one", x.left(1), 0);
    }

    private static void fullOfTakenBolts() {
        for (int more = 19; more <= 22; more++) {
            int n = more;
            Scene scene = both(Lofts.square(12), x -> {
                for (int b = 0; b < n; b++) {
                    x.bolt(5, 30, ONE);
                }
                x.plan(0);
            });
            String name = "take 3 with " + n + " bolts";
            if (n <= 21) {
                answers(name, scene, x -> x.take(0), 3);
                answers(name + ", count", both(scene, x -> x.take(0)), x -> x.count(0), n + 3);
            } else {
                refused(name, scene, x -> x.take(0), -1);
            }
        }
        Scene most = both(Lofts::allPanels, x -> {
            x.bolt(2, 200, ONE);
            x.plan(0);
        });
        refused("take 40", most, x -> x.take(0), -1);
        Scene fits = x -> {
            x.sail(0, 5, 0, 5, 23);
            x.cut(0, 2, 1);
            x.bolt(2, 200, ONE);
            x.plan(0);
        };
        answers("take 23 with 1 bolt", fits, x -> x.take(0), 23);
        answers("24 bolts then", both(fits, x -> x.take(0)), x -> x.count(0), 24);
        refused("take 24 with 1 bolt", both(fits, x -> {
            x.patch(0, 0, 1, 1);
            x.plan(0);
        }), x -> x.take(0), -1);
        refused("take when there are 24", both(Lofts.onePanel(1), x -> {
            for (int b = 0; b < 24; b++) {
                x.bolt(2, 10, ONE);
            }
            x.plan(0);
        }), x -> x.take(0), -1);
    }

    private static void isTakenAway() {
        SailLoft x = made(Lofts::mixed);
        x.plan(0);
        due("it is SET ahead of it", x.told(0, 5), 1);
        due("it pushes", x.push(3), 140);
        x.take(0);
        due("it is TAKEN", x.told(0, 0), 2);
        due("it is not SET any more", x.told(0, 5), 0);
        due("it pushes no more", x.push(3), 0);
        due("nothing breaks", x.bears(), -1);
        due("its reef stays told", x.told(0, 4), 1);
        x.undo();
        due("undone: CUT", x.told(0, 0), 1);
        due("undone: SET", x.told(0, 5), 1);
        due("undone: it pushes", x.push(3), 140);
        due("undone: its bolts are gone", x.count(0), 4);
        due("undone: it can be lifted", x.lift(0, 0), true);
        x.undo();
        x.set(0, false);
        x.take(0);
        x.undo();
        due("undone: not SET, as it was", x.told(0, 5), 0);
    }

    public static void main(String[] args) {
        lay();
        lift();
        plan();
        fewest();
        take();
        end();
    }
}
