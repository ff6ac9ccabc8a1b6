import java.util.ArrayList;
import java.util.List;

/** What the tests of boundary cases share. No object here is asked beyond its 512th call. */
class Check {
    static final int ONE = Float.floatToRawIntBits(1f);

    /** A scene takes at most some 150 calls, so this many more stay below 512. */
    private static final int LOT = 300;
    private static final int[] UNDONE = {0, 1, 2, 16};
    private static int checks = 0;
    private static int wrong = 0;

    /** Calls that make a new loft what a test needs. */
    interface Scene {
        void make(SailLoft x);
    }

    interface Call {
        long on(SailLoft x);
    }

    /** A call with one argument left open. */
    interface CallOf {
        long on(SailLoft x, int v);
    }

    private record Ask(String name, Call call) {
    }

    static long bit(boolean b) {
        return b ? 1L : 0L;
    }

    static int bits(float grams) {
        return Float.floatToRawIntBits(grams);
    }

    static SailLoft made(Scene scene) {
        SailLoft x = new SailLoft();
        scene.make(x);
        return x;
    }

    static Scene both(Scene first, Scene then) {
        return x -> {
            first.make(x);
            then.make(x);
        };
    }

    static void due(String name, long got, long want) {
        checks++;
        if (got != want) {
            wrong++;
            System.out.println(name + ": answered " + got + ", due is " + want);
        }
    }

    static void due(String name, boolean got, boolean want) {
        due(name, bit(got), bit(want));
    }

    static void answers(String name, Scene scene, Call call, long want) {
        due(name, call.on(made(scene)), want);
    }

    /** The call answers so, and all that can be asked or done then is as if it had never been called. */
    static void refused(String name, Scene scene, Call call, long want) {
        answers(name, scene, call, want);
        unchanged(name, scene, call);
    }

    static void refused(String name, Scene scene, CallOf call, long want, int... values) {
        for (int v : values) {
            refused(name + " " + v, scene, x -> call.on(x, v), want);
        }
    }

    /** Both ends are taken; what is one beyond them, or far beyond, is refused. */
    static void range(String name, Scene scene, CallOf call, int least, int most, long taken, long refusal) {
        answers(name + " " + least, scene, x -> call.on(x, least), taken);
        answers(name + " " + most, scene, x -> call.on(x, most), taken);
        refused(name, scene, call, refusal, least - 1, most + 1, Integer.MIN_VALUE, Integer.MAX_VALUE);
    }

    /** There are such from 0 up to most: no other number is taken. */
    static void noSuch(String name, Scene scene, CallOf call, int most, long refusal) {
        refused(name, scene, call, refusal, -1, most + 1, Integer.MIN_VALUE, Integer.MAX_VALUE);
    }

    /** An ask, or a call that answers without doing anything, changes nothing. */
    static void unchanged(String name, Scene scene, Call call) {
        List<Ask> asks = allAsks(scene);
        for (int undone : UNDONE) {
            for (int from = 0; from < asks.size(); from += LOT) {
                List<Ask> lot = asks.subList(from, Math.min(from + LOT, asks.size()));
                sameAnswers(name + ", " + undone + " undone", scene, call, undone, lot);
            }
        }
        for (List<Ask> probe : probes(scene)) {
            sameAnswers(name + ", then", scene, call, 0, probe);
        }
    }

    private static void sameAnswers(String name, Scene scene, Call call, int undone, List<Ask> asks) {
        SailLoft without = made(scene);
        SailLoft with = made(scene);
        call.on(with);
        for (int n = 0; n < undone; n++) {
            due(name + ", undo", with.undo(), without.undo());
        }
        for (Ask ask : asks) {
            due(name + ", " + ask.name, ask.call.on(with), ask.call.on(without));
        }
    }

    private static List<Ask> allAsks(Scene scene) {
        SailLoft x = made(scene);
        List<Ask> asks = new ArrayList<>();
        for (int what = 0; what <= 2; what++) {
            int w = what;
            asks.add(new Ask("count " + w, l -> l.count(w)));
        }
        for (int b = 0; b <= x.count(0); b++) {
            addBolt(asks, b);
        }
        for (int s = 0; s <= x.count(1); s++) {
            addSail(asks, s, x.told(s, 8), x.told(s, 1) + x.told(s, 2));
        }
        addMast(asks);
        return asks;
    }

    private static List<Integer> places() {
        List<Integer> places = new ArrayList<>();
        for (int k = 0; k <= 30; k++) {
            places.add(k);
        }
        places.addAll(List.of(99, 100, 198, 199));
        return places;
    }

    private static void addBolt(List<Ask> asks, int b) {
        asks.add(new Ask("left " + b, l -> l.left(b)));
        asks.add(new Ask("old " + b, l -> l.old(b)));
        for (int k : places()) {
            asks.add(new Ask("worn " + b + " " + k, l -> l.worn(b, k)));
            asks.add(new Ask("over " + b + " " + k, l -> l.over(b, k)));
        }
    }

    private static void addSail(List<Ask> asks, int s, int height, int pieces) {
        for (int what = 0; what <= 8; what++) {
            int w = what;
            asks.add(new Ask("told " + s + " " + w, l -> l.told(s, w)));
        }
        for (int y = 0; y <= height; y++) {
            int h = y;
            asks.add(new Ask("at " + s + " 0 " + h, l -> l.at(s, 0, h)));
            asks.add(new Ask("at " + s + " 1 " + h, l -> l.at(s, 1, h)));
            asks.add(new Ask("full " + s + " " + h, l -> l.full(s, h)));
        }
        for (int i = 0; i <= pieces; i++) {
            for (int what = 0; what <= 9; what++) {
                int p = i;
                int w = what;
                asks.add(new Ask("panel " + s + " " + p + " " + w, l -> l.panel(s, p, w)));
            }
        }
        asks.add(new Ask("fewest " + s + " 0", l -> l.fewest(s, 0)));
        asks.add(new Ask("fewest " + s + " 100", l -> l.fewest(s, 100)));
    }

    private static void addMast(List<Ask> asks) {
        for (int k = 0; k <= 60; k++) {
            int h = k;
            asks.add(new Ask("push " + h, l -> l.push(h)));
        }
        asks.add(new Ask("bears", SailLoft::bears));
        asks.add(new Ask("least", SailLoft::least));
    }

    /** Acts that show what no ask does: where ROWS end, the loads, the winds of strips on which nothing is SET. */
    private static List<List<Ask>> probes(Scene scene) {
        SailLoft x = made(scene);
        int bolts = Math.min(x.count(0), 8);
        int sails = x.count(1);
        List<Ask> wears = new ArrayList<>();
        for (int b = 0; b < bolts; b++) {
            for (int k : places()) {
                int n = b;
                wears.add(new Ask("wear " + n + " " + k, l -> bit(l.wear(n, k, 1))));
            }
        }
        List<Ask> sets = new ArrayList<>();
        List<Ask> plan = new ArrayList<>(List.of(new Ask("plan 100", l -> l.plan(100))));
        for (int s = 0; s < sails; s++) {
            int n = s;
            sets.add(new Ask("set " + n, l -> bit(l.set(n, true))));
            plan.add(new Ask("take " + n, l -> l.take(n)));
        }
        for (int b = 0; b < bolts; b++) {
            int n = b;
            plan.add(new Ask("left " + n, l -> l.left(n)));
        }
        addMast(sets);
        return List.of(wears, sets, plan, breaks());
    }

    /** The most wind at one strip after the other: the first height that breaks tells of the loads. */
    private static List<Ask> breaks() {
        List<Ask> asks = new ArrayList<>();
        for (int y = 0; y < 60; y++) {
            int strip = y;
            asks.add(new Ask("wind " + y, l -> bit(l.wind(strip, 1000))));
            asks.add(new Ask("bears with wind " + y, SailLoft::bears));
        }
        return asks;
    }

    static void end() {
        System.out.println(wrong == 0 ? "all " + checks + " answers are as due" : wrong + " answers are not as due");
        if (wrong != 0) {
            System.exit(1);
        }
    }
}
