/** Each promise of the document by hand: ordinary inputs, the edges it names, and wrong inputs. */
public final class PromiseTests {
    private static final int ONE = Float.floatToRawIntBits(1f);
    private static int wrong = 0;
    private static int promise = 0;
    private static int row = 0;

    private static void due(long got, long want) {
        row++;
        if (got != want) {
            wrong++;
            System.out.println("promise " + promise + ", check " + row + ": answered " + got + ", due is " + want);
        }
    }

    private static void due(boolean got, boolean want) {
        due(got ? 1L : 0L, want ? 1L : 0L);
    }

    private static void begin(int number) {
        promise = number;
        row = 0;
    }

    /** A loft with one sail, a square of breadth 10 and height h, cut into panels of 4 with a seam of 1. */
    private static SailLoft square(int h) {
        SailLoft x = new SailLoft();
        x.sail(0, 10, 0, 10, h);
        x.cut(0, 5, 1);
        return x;
    }

    private static void newObject() {
        begin(1);
        SailLoft x = new SailLoft();
        due(x.count(0), 0);
        due(x.count(1), 0);
        due(x.count(2), 0);
        due(x.undo(), false);
        due(x.worn(0, 0), -1);
        due(x.left(0), -1);
        due(x.told(0, 0), -1);
        due(x.bears(), -1);
        due(x.least(), 0);
        due(x.plan(0), -1);
        due(x.count(2), 0);
        due(SailLoft.NONE, -1);
    }

    private static void bolt() {
        begin(2);
        SailLoft x = new SailLoft();
        due(x.bolt(2, 1, 0), 0);
        due(x.bolt(20, 200, Float.floatToRawIntBits(1000f)), 1);
        due(x.bolt(1, 1, 0), -1);
        due(x.bolt(21, 1, 0), -1);
        due(x.bolt(2, 0, 0), -1);
        due(x.bolt(2, 201, 0), -1);
        due(x.bolt(2, 1, Float.floatToRawIntBits(Math.nextUp(1000f))), -1);
        due(x.bolt(2, 1, Float.floatToRawIntBits(-1f)), -1);
        due(x.bolt(2, 1, Float.floatToRawIntBits(-Float.MIN_VALUE)), -1);
        due(x.bolt(2, 1, Float.floatToRawIntBits(Float.NaN)), -1);
        due(x.bolt(2, 1, -1), -1);
        due(x.bolt(2, 1, Float.floatToRawIntBits(Float.POSITIVE_INFINITY)), -1);
        due(x.bolt(2, 1, Float.floatToRawIntBits(Float.NEGATIVE_INFINITY)), -1);
        due(x.bolt(Integer.MIN_VALUE, Integer.MAX_VALUE, 0), -1);
        due(x.count(0), 2);
        due(x.count(2), 2);
        due(x.bolt(2, 1, Float.floatToRawIntBits(-0f)), 2);
        due(x.bolt(2, 1, 1), 3);
        for (int n = 4; n < 24; n++) {
            due(x.bolt(2, 1, ONE), n);
        }
        due(x.bolt(2, 1, ONE), -1);
        due(x.count(0), 24);
    }

    private static void rowOfBolt() {
        begin(3);
        SailLoft x = square(4);
        x.bolt(5, 12, ONE);
        due(x.row(0, 13), false);
        due(x.row(0, -1), false);
        due(x.row(1, 0), false);
        due(x.row(-1, 0), false);
        due(x.row(0, 12), true);
        due(x.wear(0, 11, 7), true);
        due(x.row(0, 12), true);
        due(x.worn(0, 11), 0);
        due(x.wear(0, 11, 7), true);
        due(x.row(0, 0), true);
        due(x.worn(0, 11), 0);
        due(x.wear(0, 0, 1), false);
        due(x.row(0, 0), true);
        due(x.lay(0, 0, 0, 0, 0), true);
        due(x.row(0, 1), false);
        due(x.lift(0, 0), true);
        due(x.row(0, 1), true);
    }

    private static void wear() {
        begin(4);
        SailLoft x = square(4);
        x.bolt(5, 12, ONE);
        due(x.wear(0, 0, 1), false);
        x.row(0, 4);
        due(x.wear(0, 3, 100), true);
        due(x.wear(0, 4, 1), false);
        due(x.wear(0, -1, 1), false);
        due(x.wear(0, 0, 101), false);
        due(x.wear(0, 0, -1), false);
        due(x.wear(1, 0, 1), false);
        due(x.wear(0, 0, 0), true);
        due(x.worn(0, 3), 100);
        due(x.lay(0, 0, 0, 2, 100), true);
        due(x.wear(0, 0, 1), false);
        x.lift(0, 0);
        due(x.wear(0, 0, 1), true);
        due(x.worn(0, 0), 1);
    }

    private static void worn() {
        begin(5);
        SailLoft x = new SailLoft();
        x.bolt(5, 12, ONE);
        due(x.worn(0, 0), 0);
        due(x.worn(0, 11), 0);
        due(x.worn(0, 12), -1);
        due(x.worn(0, -1), -1);
        due(x.worn(1, 0), -1);
        due(x.worn(-1, 0), -1);
        x.row(0, 3);
        x.wear(0, 2, 55);
        due(x.worn(0, 2), 55);
        due(x.worn(0, 3), 0);
    }

    private static void sail() {
        begin(6);
        SailLoft x = new SailLoft();
        due(x.sail(-500, 500, -500, 500, 60), 0);
        due(x.sail(500, -500, 500, -500, 1), 1);
        due(x.sail(-501, 0, 0, 0, 1), -1);
        due(x.sail(0, 501, 0, 0, 1), -1);
        due(x.sail(0, 0, 501, 0, 1), -1);
        due(x.sail(0, 0, 0, -501, 1), -1);
        due(x.sail(0, 0, 0, 0, 0), -1);
        due(x.sail(0, 0, 0, 0, 61), -1);
        due(x.count(1), 2);
        due(x.count(2), 2);
        for (int n = 2; n < 10; n++) {
            due(x.sail(0, 1, 0, 1, 1), n);
        }
        due(x.sail(0, 1, 0, 1, 1), -1);
        due(x.told(0, 8), 60);
        due(x.told(0, 0), 0);
    }

    private static void edge() {
        begin(7);
        SailLoft x = new SailLoft();
        x.sail(0, 10, 0, 10, 4);
        due(x.edge(0, 0, 6), false);
        due(x.edge(0, 0, -1), false);
        due(x.edge(0, 2, 1), false);
        due(x.edge(0, -1, 1), false);
        due(x.edge(1, 0, 1), false);
        due(x.edge(0, 0, 5), true);
        due(x.stand(0, 0, 4, -3), true);
        due(x.at(0, 0, 4), -3);
        due(x.edge(0, 0, 5), true);
        due(x.at(0, 0, 4), 0);
        due(x.stand(0, 0, 4, -3), true);
        due(x.edge(0, 0, 0), true);
        due(x.at(0, 0, 4), 0);
        due(x.stand(0, 0, 0, 0), false);
        x.cut(0, 5, 1);
        due(x.edge(0, 0, 1), false);
    }

    private static void stand() {
        begin(8);
        SailLoft x = new SailLoft();
        x.sail(0, 300, 0, 300, 4);
        due(x.stand(0, 1, 0, 1), false);
        x.edge(0, 1, 3);
        due(x.stand(0, 1, 2, 200), true);
        due(x.at(0, 1, 2), 500);
        due(x.stand(0, 1, 2, -200), true);
        due(x.at(0, 1, 2), 100);
        due(x.at(0, 0, 2), 0);
        due(x.stand(0, 1, 2, 201), false);
        due(x.stand(0, 1, 2, -201), false);
        due(x.stand(0, 1, 3, 1), false);
        due(x.stand(0, 1, -1, 1), false);
        due(x.stand(0, 0, 0, 1), false);
        due(x.stand(0, 2, 0, 1), false);
        due(x.stand(1, 0, 0, 1), false);
        x.cut(0, 5, 1);
        due(x.stand(0, 1, 2, 1), false);
        due(x.at(0, 1, 2), 100);
        x.sail(0, 300, 0, 300, 4);
        x.edge(1, 0, 1);
        due(x.stand(1, 0, 0, -9), true);
        due(x.at(1, 0, 0), -9);
    }

    private static void at() {
        begin(9);
        SailLoft x = new SailLoft();
        x.sail(0, 100, -7, 107, 4);
        due(x.at(0, 0, 0), 0);
        due(x.at(0, 0, 1), -1);
        due(x.at(0, 0, 3), -5);
        due(x.at(0, 0, 4), -7);
        due(x.at(0, 1, 1), 101);
        due(x.at(0, 1, 3), 105);
        due(x.at(0, 0, 5), -10000);
        due(x.at(0, 0, -1), -10000);
        due(x.at(0, 2, 0), -10000);
        due(x.at(0, -1, 0), -10000);
        due(x.at(1, 0, 0), -10000);
        due(x.at(-1, 0, 0), -10000);
        x.cut(0, 5, 1);
        due(x.at(0, 1, 3), 105);
    }

    private static void cut() {
        begin(10);
        SailLoft x = new SailLoft();
        x.sail(0, 10, 0, 10, 60);
        due(x.cut(0, 1, 1), -1);
        due(x.cut(0, 21, 1), -1);
        due(x.cut(0, 5, 0), -1);
        due(x.cut(0, 5, 5), -1);
        due(x.cut(0, 2, 1), -1);
        due(x.cut(1, 5, 1), -1);
        due(x.cut(-1, 5, 1), -1);
        due(x.told(0, 0), 0);
        due(x.count(2), 1);
        due(x.cut(0, 20, 18), 30);
        due(x.cut(0, 20, 18), -1);
        x.sail(0, 10, 0, 10, 40);
        due(x.cut(1, 20, 19), 40);
        x.sail(0, 10, 0, 10, 41);
        due(x.cut(2, 20, 19), -1);
        due(x.cut(2, 20, 1), 3);
        due(x.panel(2, 2, 1), 38);
        due(x.panel(2, 2, 2), 41);
        due(x.panel(2, 2, 4), 4);
        x.sail(0, 1, 5, 5, 3);
        due(x.cut(3, 5, 1), -1);
        x.sail(0, 10, 0, 10, 3);
        x.edge(4, 0, 4);
        x.stand(4, 0, 2, 10);
        due(x.cut(4, 5, 1), -1);
        x.stand(4, 0, 2, 9);
        due(x.cut(4, 5, 1), 1);
        due(x.panel(4, 0, 3), 10);
        due(x.panel(4, 0, 5), 20 + 11 + 11);
        x.sail(0, 10, 10, 10, 3);
        due(x.cut(5, 5, 1), -1);
        x.sail(10, 10, 0, 10, 3);
        due(x.cut(6, 5, 1), -1);
        x.sail(3, 10, 12, 13, 3);
        due(x.cut(7, 5, 1), 1);
    }

    private static void narrow() {
        begin(11);
        SailLoft x = square(12);
        due(x.narrow(0, 0, 51), false);
        due(x.narrow(0, 0, -1), false);
        due(x.narrow(0, 2, 1), false);
        due(x.narrow(0, -1, 1), false);
        due(x.narrow(1, 0, 1), false);
        due(x.narrow(0, 1, 50), true);
        due(x.panel(0, 1, 9), 50);
        due(x.panel(0, 1, 0), 1);
        due(x.narrow(0, 1, 0), true);
        due(x.panel(0, 1, 0), 0);
        due(x.narrow(0, 1, 0), true);
        due(x.count(2), 5);
        due(x.patch(0, 0, 1, 1), 3);
        due(x.narrow(0, 2, 1), false);
        due(x.narrow(0, 3, 1), false);
        x.sail(0, 10, 0, 10, 12);
        due(x.narrow(1, 0, 1), false);
    }

    private static void patch() {
        begin(12);
        SailLoft x = square(12);
        due(x.patch(0, 0, 1, 1), 3);
        due(x.patch(0, 11, 20, 100), 4);
        due(x.patch(0, 12, 1, 1), -1);
        due(x.patch(0, -1, 1, 1), -1);
        due(x.patch(0, 0, 0, 1), -1);
        due(x.patch(0, 0, 21, 1), -1);
        due(x.patch(0, 0, 1, 0), -1);
        due(x.patch(0, 0, 1, 101), -1);
        due(x.patch(1, 0, 1, 1), -1);
        x.sail(0, 10, 0, 10, 12);
        due(x.patch(1, 0, 1, 1), -1);
        due(x.told(0, 2), 2);
        for (int n = 5; n < 40; n++) {
            due(x.patch(0, 0, 1, 1), n);
        }
        due(x.patch(0, 0, 1, 1), -1);
        due(x.told(0, 1), 3);
        due(x.told(0, 2), 37);
    }

    private static void told() {
        begin(13);
        SailLoft x = new SailLoft();
        x.sail(5, 0, 5, 0, 3);
        due(x.told(0, 3), -30);
        for (int what : new int[] {0, 1, 2, 4, 5, 6, 7}) {
            due(x.told(0, what), 0);
        }
        due(x.told(0, 8), 3);
        due(x.told(0, 9), -1);
        due(x.told(0, -1), -1);
        due(x.told(1, 0), -1);
        due(x.told(-1, 0), -1);
        x = square(12);
        x.patch(0, 0, 2, 3);
        x.line(0, 5);
        x.reef(0, 5);
        x.set(0, true);
        x.bolt(20, 200, Float.floatToRawIntBits(0.3f));
        x.plan(0);
        due(x.told(0, 0), 1);
        due(x.told(0, 1), 3);
        due(x.told(0, 2), 1);
        due(x.told(0, 3), 240);
        due(x.told(0, 4), 5);
        due(x.told(0, 5), 1);
        due(x.told(0, 6), 12 + 12 + 12 + 1);
        due(x.told(0, 7), 1);
        x.take(0);
        due(x.told(0, 0), 2);
        due(x.told(0, 1), 3);
        due(x.told(0, 4), 5);
        due(x.told(0, 5), 0);
        due(x.told(0, 6), 37);
    }

    private static void panel() {
        begin(14);
        SailLoft x = new SailLoft();
        x.sail(0, 10, 0, 10, 6);
        due(x.panel(0, 0, 0), -1);
        x.cut(0, 5, 1);
        x.patch(0, 5, 3, 4);
        due(x.panel(0, 1, 1), 4);
        due(x.panel(0, 1, 2), 6);
        due(x.panel(0, 1, 4), 3);
        due(x.panel(0, 1, 5), 40);
        due(x.panel(0, 2, 0), 2);
        due(x.panel(0, 2, 1), 5);
        due(x.panel(0, 2, 2), 6);
        due(x.panel(0, 2, 3), 4);
        due(x.panel(0, 2, 4), 3);
        due(x.panel(0, 2, 5), 24);
        due(x.panel(0, 2, 6), -1);
        due(x.panel(0, 2, 7), -1);
        due(x.panel(0, 2, 8), 0);
        due(x.panel(0, 2, 9), 0);
        due(x.panel(0, 1, 9), 0);
        due(x.panel(0, 2, 10), -1);
        due(x.panel(0, 2, -1), -1);
        due(x.panel(0, 3, 0), -1);
        due(x.panel(0, -1, 0), -1);
        due(x.panel(1, 0, 0), -1);
        x.bolt(20, 200, Float.floatToRawIntBits(1000f));
        x.lay(0, 2, 0, 7, 0);
        due(x.panel(0, 2, 6), 0);
        due(x.panel(0, 2, 7), 7);
        due(x.panel(0, 2, 8), 12000);
        slants();
        weights();
        oldKinds();
    }

    /** The edges are 4, 3, 2, 1, 0 at the left and 6, 7, 8, 9, 10 at the right: breadths 2, 4, 6, 8, 10. */
    private static void slants() {
        SailLoft x = new SailLoft();
        x.sail(4, 6, 0, 10, 4);
        x.cut(0, 4, 2);
        due(x.panel(0, 0, 3), 6);
        due(x.panel(0, 0, 5), 2 + 4 + 4 + 6);
        due(x.panel(0, 1, 3), 10);
        due(x.panel(0, 1, 5), 6 + 8 + 8 + 10);
        due(x.told(0, 3), 48);
        x.sail(10, 100, 10, 100, 4);
        x.edge(1, 0, 4);
        x.edge(1, 1, 5);
        x.stand(1, 0, 3, -30);
        x.stand(1, 1, 1, -50);
        x.stand(1, 1, 4, 7);
        x.cut(1, 4, 2);
        due(x.panel(1, 0, 3), 90);
        due(x.panel(1, 0, 5), 90 + 40 + 40 + 90);
        due(x.panel(1, 1, 3), 127);
        due(x.panel(1, 1, 5), 90 + 120 + 120 + 97);
    }

    private static void weights() {
        SailLoft x = new SailLoft();
        x.sail(0, 200, 0, 200, 19);
        x.cut(0, 20, 1);
        x.bolt(20, 200, Float.floatToRawIntBits(1000f));
        x.bolt(20, 200, Float.floatToRawIntBits(263.157f));
        x.bolt(20, 200, Float.floatToRawIntBits(0.1f));
        x.bolt(20, 200, 1);
        x.bolt(20, 200, 0x00800000);
        int[] dues = {1000000, 999996, 380, 0, 0};
        for (int b = 0; b < dues.length; b++) {
            x.lay(0, 0, b, 0, 0);
            due(x.panel(0, 0, 8), dues[b]);
            x.lift(0, 0);
        }
    }

    private static void oldKinds() {
        SailLoft x = square(4);
        x.bolt(20, 200, ONE);
        x.lay(0, 0, 0, 0, 0);
        due(x.panel(0, 0, 0), 0);
        x.take(0);
        x.sail(0, 5, 0, 5, 8);
        x.cut(1, 5, 1);
        x.narrow(1, 0, 3);
        x.patch(1, 0, 1, 1);
        due(x.panel(1, 0, 0), 1);
        due(x.lay(1, 0, 1, 0, 0), true);
        due(x.lay(1, 2, 1, 5, 0), true);
        due(x.lay(1, 1, 0, 50, 0), true);
        due(x.panel(1, 0, 0), 3);
        due(x.panel(1, 2, 0), 2);
        due(x.panel(1, 1, 0), 0);
        due(x.lift(1, 0), true);
        due(x.panel(1, 0, 0), 1);
    }

    private static void full() {
        begin(15);
        SailLoft x = square(12);
        x.narrow(0, 0, 7);
        x.narrow(0, 1, 30);
        due(x.full(0, 0), 0);
        due(x.full(0, 3), 0);
        due(x.full(0, 4), 7);
        due(x.full(0, 7), 7);
        due(x.full(0, 8), 37);
        due(x.full(0, 12), 37);
        due(x.full(0, 13), -1);
        due(x.full(0, -1), -1);
        due(x.full(1, 0), -1);
        x.sail(0, 10, 0, 10, 12);
        due(x.full(1, 0), -1);
        x.bolt(20, 200, ONE);
        x.lay(0, 0, 0, 0, 0);
        x.lay(0, 1, 0, 10, 0);
        x.lay(0, 2, 0, 20, 0);
        due(x.take(0), 3);
        due(x.full(0, 4), -1);
    }

    private static void lay() {
        begin(16);
        SailLoft x = square(8);
        x.bolt(5, 25, ONE);
        x.bolt(4, 25, ONE);
        x.row(0, 20);
        x.wear(0, 12, 40);
        due(x.lay(0, 0, 1, 0, 100), false);
        due(x.lay(0, 0, 0, -1, 100), false);
        due(x.lay(0, 0, 0, 16, 100), false);
        due(x.lay(0, 0, 0, Integer.MAX_VALUE, 100), false);
        due(x.lay(0, 0, 0, Integer.MIN_VALUE, 100), false);
        due(x.lay(0, 0, 0, 13, 101), false);
        due(x.lay(0, 0, 0, 13, -1), false);
        due(x.lay(0, 2, 0, 13, 0), false);
        due(x.lay(0, -1, 0, 13, 0), false);
        due(x.lay(1, 0, 0, 13, 0), false);
        due(x.lay(0, 0, 2, 13, 0), false);
        due(x.lay(0, 0, -1, 13, 0), false);
        due(x.lay(0, 0, 0, 12, 39), false);
        due(x.lay(0, 0, 0, 3, 39), false);
        due(x.lay(0, 0, 0, 13, 0), true);
        due(x.lay(0, 0, 0, 0, 0), false);
        due(x.lay(0, 1, 0, 4, 100), false);
        due(x.lay(0, 1, 0, 3, 40), true);
        due(x.left(0), 5);
        x.sail(0, 2, 0, 2, 4);
        due(x.lay(1, 0, 0, 0, 0), false);
        x.cut(1, 5, 1);
        due(x.lay(1, 0, 0, 23, 0), true);
        due(x.lay(1, 0, 0, 0, 0), false);
    }

    private static void lift() {
        begin(17);
        SailLoft x = square(4);
        x.bolt(5, 25, ONE);
        due(x.lift(0, 0), false);
        x.lay(0, 0, 0, 3, 0);
        due(x.lift(0, 1), false);
        due(x.lift(0, -1), false);
        due(x.lift(1, 0), false);
        due(x.lift(0, 0), true);
        due(x.lift(0, 0), false);
        due(x.over(0, 3), -1);
        due(x.left(0), 25);
        due(x.panel(0, 0, 6), -1);
        due(x.panel(0, 0, 7), -1);
        due(x.panel(0, 0, 8), 0);
        x.lay(0, 0, 0, 3, 0);
        x.take(0);
        due(x.lift(0, 0), false);
        due(x.panel(0, 0, 7), 3);
    }

    private static void leftAndOver() {
        begin(18);
        SailLoft x = new SailLoft();
        x.bolt(5, 25, ONE);
        x.sail(0, 1, 0, 1, 1);
        x.sail(0, 10, 0, 10, 8);
        x.cut(1, 5, 1);
        due(x.left(0), 25);
        due(x.left(1), -1);
        due(x.left(-1), -1);
        x.lay(1, 1, 0, 15, 0);
        due(x.left(0), 15);
        begin(19);
        due(x.over(0, 15), 101);
        due(x.over(0, 24), 101);
        due(x.over(0, 14), -1);
        due(x.over(0, 25), -1);
        due(x.over(0, -1), -1);
        due(x.over(1, 0), -1);
        due(x.over(-1, 0), -1);
    }

    private static void plan() {
        begin(20);
        SailLoft x = square(8);
        due(x.plan(-1), -2);
        due(x.plan(101), -2);
        due(x.plan(0), 0);
        due(x.count(2), 2);
        x.bolt(4, 200, ONE);
        x.bolt(5, 30, ONE);
        x.row(1, 30);
        x.wear(1, 3, 50);
        x.patch(0, 0, 6, 1);
        x.patch(0, 0, 1, 1);
        due(x.count(2), 8);
        due(x.plan(49), 2);
        due(x.count(2), 9);
        due(x.panel(0, 0, 6), 1);
        due(x.panel(0, 0, 7), 4);
        due(x.panel(0, 1, 7), 14);
        due(x.panel(0, 3, 6), -1);
        due(x.plan(49), 2);
        due(x.count(2), 9);
        x.bolt(20, 200, ONE);
        due(x.plan(49), -1);
        due(x.panel(0, 2, 6), 2);
        due(x.panel(0, 3, 6), 0);
        due(x.panel(0, 3, 7), 0);
        due(x.undo(), true);
        due(x.undo(), true);
        due(x.undo(), true);
        due(x.left(1), 30);
        due(x.plan(50), 2);
        due(x.panel(0, 0, 7), 0);
        x = square(12);
        x.bolt(5, 10, ONE);
        x.bolt(5, 25, ONE);
        due(x.lay(0, 2, 1, 5, 0), true);
        due(x.plan(0), -1);
        due(x.panel(0, 0, 6), 0);
        due(x.panel(0, 1, 6), 1);
        due(x.panel(0, 1, 7), 15);
        due(x.left(0), 0);
    }

    private static void fewest() {
        begin(21);
        SailLoft x = square(12);
        due(x.fewest(0, 0), -1);
        x.bolt(5, 10, ONE);
        x.bolt(5, 10, ONE);
        x.bolt(5, 10, ONE);
        due(x.fewest(0, 0), 3);
        x.bolt(5, 20, ONE);
        due(x.fewest(0, 0), 2);
        x.bolt(4, 30, ONE);
        due(x.fewest(0, 0), 2);
        x.bolt(5, 30, ONE);
        due(x.fewest(0, 0), 1);
        x.row(5, 30);
        x.wear(5, 29, 10);
        due(x.fewest(0, 9), 2);
        due(x.fewest(0, 10), 1);
        due(x.fewest(0, 101), -1);
        due(x.fewest(0, -1), -1);
        due(x.fewest(1, 0), -1);
        due(x.fewest(-1, 0), -1);
        x.lay(0, 0, 5, 0, 100);
        due(x.fewest(0, 100), 1);
        x.lay(0, 1, 3, 0, 100);
        due(x.fewest(0, 100), 1);
        x.lay(0, 2, 0, 0, 100);
        due(x.fewest(0, 100), 0);
        due(x.fewest(0, 101), -1);
        for (int n = 0; n < 8; n++) {
            x.patch(0, 0, 4, 10);
        }
        due(x.fewest(0, 0), -1);
        x.bolt(4, 40, ONE);
        due(x.fewest(0, 0), 3);
        x.patch(0, 0, 1, 1);
        due(x.fewest(0, 0), -1);
        fewestWants();
    }

    /** Taking the largest bolt first, or the longest piece first, would need one bolt more here. */
    private static void fewestWants() {
        SailLoft x = new SailLoft();
        x.sail(0, 6, 0, 6, 1);
        x.cut(0, 2, 1);
        for (int length : new int[] {5, 5, 4, 4, 4}) {
            x.patch(0, 0, 2, length);
        }
        x.bolt(2, 14, ONE);
        x.bolt(2, 14, ONE);
        due(x.fewest(0, 0), 2);
        x.undo();
        x.bolt(2, 13, ONE);
        due(x.fewest(0, 0), -1);
    }

    private static void mastAndWind() {
        begin(22);
        SailLoft x = square(1);
        x.set(0, true);
        x.wind(0, 1000);
        due(x.push(0), 20000);
        due(x.mast(0, 5000), true);
        due(x.bears(), -1);
        due(x.mast(0, 4999), true);
        due(x.bears(), 0);
        due(x.mast(0, -1), false);
        due(x.mast(0, 2000000001), false);
        due(x.mast(61, 0), false);
        due(x.mast(-1, 0), false);
        due(x.bears(), 0);
        due(x.mast(0, 2000000000), true);
        due(x.mast(60, 0), true);
        due(x.bears(), -1);
        begin(23);
        due(x.wind(0, 1001), false);
        due(x.wind(0, -1), false);
        due(x.wind(60, 0), false);
        due(x.wind(-1, 0), false);
        due(x.push(0), 20000);
        due(x.wind(59, 1000), true);
        due(x.wind(0, 1), true);
        due(x.push(0), 20);
        due(x.wind(0, 0), true);
        due(x.push(0), 0);
        due(x.count(2), 3);
    }

    private static void setAndReef() {
        begin(24);
        SailLoft x = new SailLoft();
        x.sail(0, 10, 0, 10, 8);
        due(x.set(0, true), false);
        due(x.reef(0, 1), false);
        x.cut(0, 5, 1);
        due(x.set(0, false), false);
        due(x.set(0, true), true);
        due(x.set(0, true), false);
        due(x.told(0, 5), 1);
        due(x.set(0, false), true);
        due(x.told(0, 5), 0);
        due(x.set(1, true), false);
        due(x.set(-1, true), false);
        begin(25);
        due(x.reef(0, 0), false);
        due(x.reef(0, 9), false);
        due(x.reef(0, -1), false);
        due(x.reef(1, 1), false);
        due(x.reef(0, 8), true);
        due(x.reef(0, 8), false);
        due(x.told(0, 4), 8);
        due(x.reef(0, 3), true);
        due(x.told(0, 4), 3);
        due(x.reef(0, 0), true);
        due(x.told(0, 4), 0);
    }

    private static void line() {
        begin(26);
        SailLoft x = new SailLoft();
        x.sail(0, 10, 0, 10, 4);
        due(x.line(0, 0), -1);
        due(x.line(0, -1), -1);
        due(x.line(0, 5), -1);
        due(x.line(1, 1), -1);
        due(x.line(0, 1), 1);
        due(x.line(0, 1), -1);
        x.cut(0, 5, 1);
        due(x.line(0, 3), 2);
        due(x.line(0, 2), -1);
        due(x.line(0, 4), 3);
        due(x.line(0, 4), -1);
        due(x.told(0, 7), 3);
        x = square(4);
        x.bolt(20, 200, ONE);
        x.plan(0);
        x.take(0);
        due(x.line(0, 1), -1);
        x = new SailLoft();
        x.sail(0, 10, 0, 10, 60);
        due(x.line(0, 1), 1);
        due(x.line(0, 2), 2);
        due(x.line(0, 3), 3);
        due(x.line(0, 4), -1);
    }

    private static void push() {
        begin(27);
        SailLoft x = new SailLoft();
        x.sail(0, 10, 0, 10, 60);
        x.sail(0, 5, 0, 5, 2);
        x.cut(0, 20, 1);
        x.cut(1, 20, 1);
        for (int y = 0; y < 60; y++) {
            x.wind(y, y + 1);
        }
        due(x.push(0), 0);
        x.set(0, true);
        due(x.push(0), 20);
        due(x.push(1), 60);
        due(x.push(60), 1200);
        due(x.push(59), 1200 + 1180);
        due(x.push(61), -1);
        due(x.push(-1), -1);
        x.set(1, true);
        due(x.push(0), 30);
        due(x.push(1), 90);
        due(x.push(2), 40 + 60 + 20);
        due(x.push(3), 60 + 80);
        x.reef(0, 2);
        due(x.push(1), 30);
        due(x.push(2), 60 + 20);
        x.reef(0, 60);
        due(x.push(60), 0);
    }

    private static void bears() {
        begin(28);
        SailLoft x = new SailLoft();
        x.sail(0, 10, 0, 10, 3);
        x.cut(0, 20, 1);
        x.set(0, true);
        x.wind(0, 1);
        x.wind(1, 1);
        x.wind(2, 1);
        due(x.bears(), -1);
        x.mast(3, 4);
        due(x.bears(), 3);
        x.mast(3, 5);
        due(x.bears(), -1);
        x.mast(2, 9);
        x.mast(1, 9);
        due(x.bears(), 1);
        x.reef(0, 1);
        due(x.bears(), 2);
        x.set(0, false);
        due(x.bears(), -1);
    }

    private static void least() {
        begin(29);
        SailLoft x = new SailLoft();
        for (int s = 0; s < 3; s++) {
            x.sail(0, 10, 0, 10, 6);
            x.cut(s, 20, 1);
            x.set(s, s != 1);
            x.line(s, 2);
            x.line(s, 4);
        }
        for (int y = 0; y < 6; y++) {
            x.wind(y, 1);
        }
        due(x.least(), 0);
        x.mast(0, 5);
        due(x.least(), 1);
        x.mast(0, 4);
        due(x.least(), 2);
        x.mast(3, 10);
        due(x.least(), 3);
        x.mast(3, 9);
        due(x.least(), 4);
        x.mast(6, 9);
        due(x.least(), -1);
        due(x.told(0, 4), 0);
        due(x.told(2, 4), 0);
        x.mast(6, 10);
        x.reef(0, 3);
        due(x.least(), 3);
        x.reef(0, 4);
        due(x.least(), 2);
        due(x.count(2), 16);
    }

    private static void takeAndOld() {
        begin(30);
        SailLoft x = square(6);
        due(x.take(0), -1);
        due(x.take(1), -1);
        x.bolt(20, 200, Float.floatToRawIntBits(3f));
        x.bolt(20, 200, Float.floatToRawIntBits(5f));
        x.patch(0, 0, 1, 3);
        x.lay(0, 0, 0, 0, 0);
        x.lay(0, 1, 1, 0, 0);
        due(x.take(0), -1);
        x.lay(0, 2, 1, 10, 0);
        x.set(0, true);
        due(x.take(0), 3);
        due(x.take(0), -1);
        due(x.count(0), 5);
        due(x.left(2), 10);
        due(x.left(3), 10);
        due(x.left(4), 3);
        due(x.worn(4, 2), 0);
        due(x.wear(4, 0, 1), false);
        due(x.over(1, 10), 2);
        due(x.row(0, 1), false);
        due(x.set(0, true), false);
        due(x.reef(0, 1), false);
        due(x.patch(0, 0, 1, 1), -1);
        due(x.narrow(0, 0, 1), false);
        due(x.fewest(0, 0), -1);
        begin(31);
        due(x.old(0), -1);
        due(x.old(1), -1);
        due(x.old(2), 0);
        due(x.old(4), 0);
        due(x.old(5), -1);
        due(x.old(-1), -1);
        begin(30);
        x.sail(0, 3, 0, 3, 1);
        x.cut(1, 3, 1);
        due(x.lay(1, 0, 4, 0, 0), true);
        due(x.panel(1, 0, 8), 15);
        due(x.panel(1, 0, 0), 3);
        due(x.lift(1, 0), true);
        due(x.lay(1, 0, 2, 0, 0), true);
        due(x.panel(1, 0, 8), 9);
        x.bolt(20, 200, 0);
        takeAtTheLimit();
    }

    private static void takeAtTheLimit() {
        SailLoft x = square(8);
        for (int n = 0; n < 22; n++) {
            x.bolt(20, 200, ONE);
        }
        x.plan(0);
        x.bolt(20, 200, ONE);
        due(x.take(0), -1);
        due(x.told(0, 0), 1);
        due(x.count(0), 23);
        due(x.undo(), true);
        due(x.take(0), 2);
        due(x.count(0), 24);
    }

    private static void undo() {
        begin(32);
        SailLoft x = new SailLoft();
        for (int n = 0; n < 20; n++) {
            x.bolt(2, 1, 0);
        }
        due(x.count(2), 16);
        for (int n = 0; n < 16; n++) {
            due(x.undo(), true);
        }
        due(x.undo(), false);
        due(x.count(0), 4);
        due(x.count(2), 0);
        undoOfMaking();
        undoOfLaying();
        undoOfSailing();
    }

    private static void undoOfMaking() {
        SailLoft x = new SailLoft();
        x.bolt(5, 20, 0);
        x.row(0, 9);
        x.wear(0, 8, 9);
        x.wear(0, 8, 8);
        x.row(0, 2);
        x.undo();
        due(x.worn(0, 8), 8);
        x.undo();
        due(x.worn(0, 8), 9);
        x.undo();
        x.undo();
        due(x.wear(0, 0, 0), false);
        x.sail(0, 10, 0, 10, 8);
        x.edge(0, 1, 9);
        x.stand(0, 1, 8, 4);
        x.stand(0, 1, 8, 5);
        x.edge(0, 1, 0);
        x.undo();
        due(x.at(0, 1, 8), 15);
        x.undo();
        due(x.at(0, 1, 8), 14);
        x.cut(0, 5, 1);
        x.narrow(0, 0, 1);
        x.narrow(0, 0, 2);
        x.patch(0, 0, 1, 1);
        x.undo();
        due(x.told(0, 2), 0);
        due(x.panel(0, 2, 0), -1);
        x.undo();
        due(x.panel(0, 0, 9), 1);
        x.undo();
        x.undo();
        due(x.told(0, 0), 0);
        due(x.told(0, 1), 0);
        due(x.stand(0, 1, 8, 6), true);
        x.undo();
        x.undo();
        x.undo();
        due(x.stand(0, 1, 8, 6), false);
        x.undo();
        due(x.count(1), 0);
        due(x.told(0, 0), -1);
        x.undo();
        due(x.count(0), 0);
        due(x.undo(), false);
        due(x.left(0), -1);
        due(x.worn(0, 0), -1);
        due(x.at(0, 0, 0), -10000);
        due(x.bolt(5, 20, 0), 0);
        due(x.wear(0, 0, 0), false);
    }

    private static void undoOfLaying() {
        SailLoft x = square(12);
        x.bolt(20, 200, ONE);
        x.lay(0, 1, 0, 50, 0);
        x.lift(0, 1);
        x.undo();
        due(x.panel(0, 1, 7), 50);
        due(x.over(0, 59), 1);
        due(x.left(0), 190);
        x.plan(0);
        due(x.left(0), 170);
        x.set(0, true);
        x.take(0);
        x.undo();
        due(x.count(0), 1);
        due(x.told(0, 0), 1);
        due(x.told(0, 5), 1);
        x.undo();
        x.undo();
        due(x.left(0), 190);
        due(x.panel(0, 0, 6), -1);
        due(x.panel(0, 1, 6), 0);
        due(x.over(0, 0), -1);
        x.undo();
        due(x.left(0), 200);
        due(x.lift(0, 1), false);
    }

    private static void undoOfSailing() {
        SailLoft x = square(12);
        x.mast(0, 7);
        x.wind(0, 10);
        x.set(0, true);
        x.reef(0, 5);
        x.reef(0, 6);
        x.line(0, 4);
        x.undo();
        due(x.told(0, 7), 0);
        x.undo();
        due(x.told(0, 4), 5);
        x.undo();
        due(x.told(0, 4), 0);
        due(x.push(0), 200);
        due(x.bears(), 0);
        x.undo();
        due(x.told(0, 5), 0);
        x.undo();
        x.undo();
        due(x.count(1), 0);
        x.sail(0, 10, 0, 10, 12);
        x.cut(0, 5, 1);
        x.set(0, true);
        due(x.bears(), 0);
    }

    private static void count() {
        begin(33);
        SailLoft x = square(4);
        x.bolt(2, 1, 0);
        due(x.count(0), 1);
        due(x.count(1), 1);
        due(x.count(2), 3);
        due(x.count(3), -1);
        due(x.count(-1), -1);
        x.undo();
        due(x.count(2), 2);
        x.wind(0, 1);
        x.mast(0, 1);
        x.least();
        x.bolt(0, 0, 0);
        due(x.count(2), 2);
    }

    public static void main(String[] args) {
        newObject();
        bolt();
        rowOfBolt();
        wear();
        worn();
        sail();
        edge();
        stand();
        at();
        cut();
        narrow();
        patch();
        told();
        panel();
        full();
        lay();
        lift();
        leftAndOver();
        plan();
        fewest();
        mastAndWind();
        setAndReef();
        line();
        push();
        bears();
        least();
        takeAndOld();
        undo();
        count();
        System.out.println(wrong == 0 ? "all answers are as due" : wrong + " answers are not as due");
        if (wrong != 0) {
            System.exit(1);
        }
    }
}
