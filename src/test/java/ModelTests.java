import java.util.ArrayDeque;
import java.util.ArrayList;
import java.util.Arrays;
import java.util.List;
import java.util.Random;

/** Random runs of 512 calls against a plain second telling of the document, which copies all it holds for undo. */
public final class ModelTests {
    private static final int RUNS = 1500;
    private static final int CALLS = 512;

    // ---- the model: values only, everything worked out anew for each answer ----

    private static final class MBolt {
        int width, length, from = -1;
        float grams;
        int[] row = {};

        MBolt copy() {
            MBolt b = new MBolt();
            b.width = width;
            b.length = length;
            b.from = from;
            b.grams = grams;
            b.row = row.clone();
            return b;
        }
    }

    private static final class MPiece {
        boolean patch;
        int lower, upper, patchLength, patchBreadth, lets, bolt = -1, place = -1, lengthOnce = -1;

        MPiece copy() {
            MPiece p = new MPiece();
            p.patch = patch;
            p.lower = lower;
            p.upper = upper;
            p.patchLength = patchLength;
            p.patchBreadth = patchBreadth;
            p.lets = lets;
            p.bolt = bolt;
            p.place = place;
            p.lengthOnce = lengthOnce;
            return p;
        }
    }

    private static final class MSail {
        int[] foot, head;
        int[][] rows = {{}, {}};
        int height, state, seam, reef;
        boolean set;
        List<Integer> lines = new ArrayList<>();
        List<MPiece> pieces = new ArrayList<>();

        MSail copy() {
            MSail s = new MSail();
            s.foot = foot;
            s.head = head;
            s.rows = new int[][] {rows[0].clone(), rows[1].clone()};
            s.height = height;
            s.state = state;
            s.seam = seam;
            s.reef = reef;
            s.set = set;
            s.lines = new ArrayList<>(lines);
            for (MPiece p : pieces) {
                s.pieces.add(p.copy());
            }
            return s;
        }

        int edge(int side, int y) {
            int told = y < rows[side].length ? rows[side][y] : 0;
            return foot[side] + (head[side] - foot[side]) * y / height + told;
        }

        int strip(int y) {
            return edge(1, y) - edge(0, y) + edge(1, y + 1) - edge(0, y + 1);
        }

        int length(MPiece p) {
            if (p.patch) {
                return p.patchLength;
            }
            if (p.lengthOnce < 0) {
                p.lengthOnce = panelLength(p);
            }
            return p.lengthOnce;
        }

        private int panelLength(MPiece p) {
            int most = -100000;
            int least = 100000;
            for (int y = p.lower; y <= p.upper; y++) {
                most = Math.max(most, edge(1, y));
                least = Math.min(least, edge(0, y));
            }
            return most - least;
        }

        int breadth(MPiece p) {
            return p.patch ? p.patchBreadth : p.upper - p.lower + seam;
        }

        int twice(MPiece p) {
            if (p.patch) {
                return 2 * p.patchBreadth * p.patchLength;
            }
            int sum = 0;
            for (int y = p.lower; y < p.upper; y++) {
                sum += strip(y);
            }
            return sum;
        }

        int panels() {
            int n = 0;
            for (MPiece p : pieces) {
                n += p.patch ? 0 : 1;
            }
            return n;
        }
    }

    private static final class State {
        List<MBolt> bolts = new ArrayList<>();
        List<MSail> sails = new ArrayList<>();

        State copy() {
            State s = new State();
            for (MBolt b : bolts) {
                s.bolts.add(b.copy());
            }
            for (MSail m : sails) {
                s.sails.add(m.copy());
            }
            return s;
        }
    }

    private static final class Model {
        State now = new State();
        final ArrayDeque<State> past = new ArrayDeque<>();
        final int[] loads = new int[61];
        final int[] winds = new int[60];

        Model() {
            Arrays.fill(loads, 2000000000);
        }

        private void act() {
            past.addLast(now.copy());
            if (past.size() > 16) {
                past.removeFirst();
            }
        }

        private MBolt b(int n) {
            return n >= 0 && n < now.bolts.size() ? now.bolts.get(n) : null;
        }

        private MSail s(int n) {
            return n >= 0 && n < now.sails.size() ? now.sails.get(n) : null;
        }

        private MSail s(int n, int state) {
            MSail m = s(n);
            return m != null && m.state == state ? m : null;
        }

        private MPiece p(MSail m, int i) {
            return m != null && i >= 0 && i < m.pieces.size() ? m.pieces.get(i) : null;
        }

        private static boolean in(int v, int a, int z) {
            return a <= v && v <= z;
        }

        int bolt(int width, int length, int grams) {
            float g = Float.intBitsToFloat(grams);
            if (!in(width, 2, 20) || !in(length, 1, 200) || !(g >= 0 && g <= 1000) || now.bolts.size() == 24) {
                return -1;
            }
            act();
            MBolt b = new MBolt();
            b.width = width;
            b.length = length;
            b.grams = g;
            now.bolts.add(b);
            return now.bolts.size() - 1;
        }

        private boolean bare(int bolt) {
            return left(bolt) == b(bolt).length;
        }

        boolean row(int bolt, int n) {
            MBolt b = b(bolt);
            if (b == null || !in(n, 0, b.length) || !bare(bolt)) {
                return false;
            }
            act();
            b.row = new int[n];
            return true;
        }

        boolean wear(int bolt, int k, int v) {
            MBolt b = b(bolt);
            if (b == null || !in(v, 0, 100) || !in(k, 0, b.row.length - 1) || !bare(bolt)) {
                return false;
            }
            act();
            b.row[k] = v;
            return true;
        }

        int worn(int bolt, int k) {
            MBolt b = b(bolt);
            if (b == null || !in(k, 0, b.length - 1)) {
                return -1;
            }
            return k < b.row.length ? b.row[k] : 0;
        }

        int sail(int fl, int fr, int hl, int hr, int height) {
            for (int x : new int[] {fl, fr, hl, hr}) {
                if (!in(x, -500, 500)) {
                    return -1;
                }
            }
            if (!in(height, 1, 60) || now.sails.size() == 10) {
                return -1;
            }
            act();
            MSail m = new MSail();
            m.foot = new int[] {fl, fr};
            m.head = new int[] {hl, hr};
            m.height = height;
            now.sails.add(m);
            return now.sails.size() - 1;
        }

        boolean edge(int sail, int side, int n) {
            MSail m = s(sail, 0);
            if (m == null || !in(side, 0, 1) || !in(n, 0, m.height + 1)) {
                return false;
            }
            act();
            m.rows[side] = new int[n];
            return true;
        }

        boolean stand(int sail, int side, int y, int v) {
            MSail m = s(sail, 0);
            if (m == null || !in(side, 0, 1) || !in(y, 0, m.rows[side].length - 1) || !in(v, -200, 200)) {
                return false;
            }
            act();
            m.rows[side][y] = v;
            return true;
        }

        int at(int sail, int side, int y) {
            MSail m = s(sail);
            return m == null || !in(side, 0, 1) || !in(y, 0, m.height) ? -10000 : m.edge(side, y);
        }

        int cut(int sail, int w, int seam) {
            MSail m = s(sail, 0);
            if (m == null || !in(w, 2, 20) || !in(seam, 1, w - 1)) {
                return -1;
            }
            for (int y = 0; y <= m.height; y++) {
                if (m.edge(0, y) >= m.edge(1, y)) {
                    return -1;
                }
            }
            List<MPiece> made = new ArrayList<>();
            int h = w - seam;
            for (int i = 0; i * h < m.height; i++) {
                MPiece p = new MPiece();
                p.lower = i * h;
                p.upper = Math.min((i + 1) * h, m.height);
                made.add(p);
            }
            if (made.size() > 40) {
                return -1;
            }
            act();
            m.state = 1;
            m.seam = seam;
            m.pieces = made;
            return made.size();
        }

        boolean narrow(int sail, int i, int v) {
            MSail m = s(sail, 1);
            if (m == null || !in(i, 0, m.panels() - 2) || !in(v, 0, 50)) {
                return false;
            }
            act();
            m.pieces.get(i).lets = v;
            return true;
        }

        int patch(int sail, int y, int breadth, int length) {
            MSail m = s(sail, 1);
            if (m == null || !in(y, 0, m.height - 1) || !in(breadth, 1, 20) || !in(length, 1, 100)
                    || m.pieces.size() == 40) {
                return -1;
            }
            act();
            MPiece p = new MPiece();
            p.patch = true;
            p.lower = y;
            p.upper = y + 1;
            p.patchBreadth = breadth;
            p.patchLength = length;
            m.pieces.add(p);
            return m.pieces.size() - 1;
        }

        private int weight(MSail m, MPiece p) {
            if (p.bolt < 0) {
                return 0;
            }
            return (int) Math.min(1000000f, b(p.bolt).grams * (float) m.twice(p) / 2f);
        }

        int told(int sail, int what) {
            MSail m = s(sail);
            if (m == null) {
                return -1;
            }
            int sum = 0;
            switch (what) {
                case 0: return m.state;
                case 1: return m.panels();
                case 2: return m.pieces.size() - m.panels();
                case 3:
                    for (int y = 0; y < m.height; y++) {
                        sum += m.strip(y);
                    }
                    return sum;
                case 4: return m.reef;
                case 5: return m.set ? 1 : 0;
                case 6:
                    for (MPiece p : m.pieces) {
                        sum += weight(m, p);
                    }
                    return sum;
                case 7: return m.lines.size();
                case 8: return m.height;
                default: return -1;
            }
        }

        int panel(int sail, int i, int what) {
            MSail m = s(sail);
            MPiece p = p(m, i);
            if (p == null) {
                return -1;
            }
            switch (what) {
                case 0: return p.patch ? 2 : p.bolt >= 0 && b(p.bolt).from >= 0 ? 3 : p.lets > 0 ? 1 : 0;
                case 1: return p.lower;
                case 2: return p.upper;
                case 3: return m.length(p);
                case 4: return m.breadth(p);
                case 5: return m.twice(p);
                case 6: return p.bolt;
                case 7: return p.place;
                case 8: return weight(m, p);
                case 9: return p.lets;
                default: return -1;
            }
        }

        int full(int sail, int y) {
            MSail m = s(sail, 1);
            if (m == null || !in(y, 0, m.height)) {
                return -1;
            }
            int sum = 0;
            for (int i = 0; i + 1 < m.panels(); i++) {
                sum += m.pieces.get(i + 1).lower <= y ? m.pieces.get(i).lets : 0;
            }
            return sum;
        }

        private boolean can(MSail m, MPiece p, int bolt, int place, int worn) {
            MBolt b = b(bolt);
            if (m.breadth(p) > b.width || place < 0 || (long) place + m.length(p) > b.length) {
                return false;
            }
            for (int k = place; k < place + m.length(p); k++) {
                if (worn(bolt, k) > worn) {
                    return false;
                }
            }
            for (MSail other : now.sails) {
                for (MPiece q : other.pieces) {
                    if (q.bolt == bolt && q.place < place + m.length(p) && place < q.place + other.length(q)) {
                        return false;
                    }
                }
            }
            return true;
        }

        boolean lay(int sail, int i, int bolt, int place, int worn) {
            MSail m = s(sail, 1);
            MPiece p = p(m, i);
            if (p == null || b(bolt) == null || !in(worn, 0, 100) || p.bolt >= 0 || !can(m, p, bolt, place, worn)) {
                return false;
            }
            act();
            p.bolt = bolt;
            p.place = place;
            return true;
        }

        boolean lift(int sail, int i) {
            MPiece p = p(s(sail, 1), i);
            if (p == null || p.bolt < 0) {
                return false;
            }
            act();
            p.bolt = -1;
            p.place = -1;
            return true;
        }

        int left(int bolt) {
            MBolt b = b(bolt);
            if (b == null) {
                return -1;
            }
            int left = b.length;
            for (MSail m : now.sails) {
                for (MPiece p : m.pieces) {
                    left -= p.bolt == bolt ? m.length(p) : 0;
                }
            }
            return left;
        }

        int over(int bolt, int k) {
            if (b(bolt) == null) {
                return -1;
            }
            for (int n = 0; n < now.sails.size(); n++) {
                MSail m = s(n);
                for (int i = 0; i < m.pieces.size(); i++) {
                    MPiece p = p(m, i);
                    if (p.bolt == bolt && k >= p.place && k < p.place + m.length(p)) {
                        return 100 * n + i;
                    }
                }
            }
            return -1;
        }

        private boolean first(MSail m, MPiece p, int worn) {
            for (int bolt = 0; bolt < now.bolts.size(); bolt++) {
                for (int place = 0; place < b(bolt).length; place++) {
                    if (can(m, p, bolt, place, worn)) {
                        p.bolt = bolt;
                        p.place = place;
                        return true;
                    }
                }
            }
            return false;
        }

        int plan(int worn) {
            if (!in(worn, 0, 100)) {
                return -2;
            }
            State before = now.copy();
            boolean laid = false;
            int stuck = -1;
            search:
            for (int n = 0; n < now.sails.size(); n++) {
                MSail m = s(n, 1);
                for (int i = 0; m != null && i < m.pieces.size(); i++) {
                    if (p(m, i).bolt >= 0) {
                        continue;
                    }
                    if (!first(m, p(m, i), worn)) {
                        stuck = 100 * n + i;
                        break search;
                    }
                    laid = true;
                }
            }
            if (laid) {
                past.addLast(before);
                if (past.size() > 16) {
                    past.removeFirst();
                }
            }
            return stuck;
        }

        int fewest(int sail, int worn) {
            MSail m = s(sail, 1);
            if (m == null || !in(worn, 0, 100)) {
                return -1;
            }
            List<int[]> loose = new ArrayList<>();
            for (MPiece p : m.pieces) {
                if (p.bolt < 0) {
                    loose.add(new int[] {m.breadth(p), m.length(p)});
                }
            }
            if (loose.size() > 8) {
                return -1;
            }
            List<int[]> free = new ArrayList<>();
            for (int n = 0; n < now.bolts.size(); n++) {
                boolean good = bare(n);
                for (int k = 0; k < b(n).length; k++) {
                    good &= worn(n, k) <= worn;
                }
                if (good) {
                    free.add(new int[] {b(n).width, b(n).length, 0});
                }
            }
            int best = pack(loose, 0, free, 0, 99);
            return best == 99 ? -1 : best;
        }

        /** Every piece on every bolt in turn; only what can't better the best is left out. */
        private int pack(List<int[]> loose, int at, List<int[]> free, int used, int best) {
            if (used >= best) {
                return best;
            }
            if (at == loose.size()) {
                return used;
            }
            int[] p = loose.get(at);
            List<String> tried = new ArrayList<>();
            for (int[] b : free) {
                String like = Arrays.toString(b);
                if (b[0] < p[0] || b[1] - b[2] < p[1] || tried.contains(like)) {
                    continue;
                }
                tried.add(like);
                b[2] += p[1];
                best = pack(loose, at + 1, free, used + (b[2] == p[1] ? 1 : 0), best);
                b[2] -= p[1];
            }
            return best;
        }

        boolean mast(int k, int load) {
            if (!in(k, 0, 60) || !in(load, 0, 2000000000)) {
                return false;
            }
            loads[k] = load;
            return true;
        }

        boolean wind(int y, int push) {
            if (!in(y, 0, 59) || !in(push, 0, 1000)) {
                return false;
            }
            winds[y] = push;
            return true;
        }

        boolean set(int sail, boolean is) {
            MSail m = s(sail, 1);
            if (m == null || m.set == is) {
                return false;
            }
            act();
            m.set = is;
            return true;
        }

        boolean reef(int sail, int line) {
            MSail m = s(sail, 1);
            if (m == null || !in(line, 0, m.height) || m.reef == line) {
                return false;
            }
            act();
            m.reef = line;
            return true;
        }

        int line(int sail, int y) {
            MSail m = s(sail);
            if (m == null || m.state == 2 || !in(y, 1, m.height) || m.lines.size() == 3
                    || !m.lines.isEmpty() && m.lines.get(m.lines.size() - 1) >= y) {
                return -1;
            }
            act();
            m.lines.add(y);
            return m.lines.size();
        }

        long push(int k) {
            if (!in(k, 0, 60)) {
                return -1;
            }
            long sum = 0;
            for (MSail m : now.sails) {
                for (int y = k - 1; y <= k; y++) {
                    if (m.set && y >= m.reef && y >= 0 && y < m.height) {
                        sum += (long) m.strip(y) * winds[y];
                    }
                }
            }
            return sum;
        }

        int bears() {
            for (int k = 0; k <= 60; k++) {
                if (push(k) > 4L * loads[k]) {
                    return k;
                }
            }
            return -1;
        }

        int least() {
            State kept = now;
            now = now.copy();
            int taken = 0;
            int answer = bears() < 0 ? 0 : -1;
            boolean more = answer < 0;
            while (more) {
                more = false;
                for (MSail m : now.sails) {
                    int next = -1;
                    for (int line : m.lines) {
                        if (line > m.reef && next < 0) {
                            next = line;
                        }
                    }
                    if (m.set && next >= 0 && answer < 0) {
                        m.reef = next;
                        taken++;
                        more = true;
                        answer = bears() < 0 ? taken : -1;
                    }
                }
                more &= answer < 0;
            }
            now = kept;
            return answer;
        }

        int take(int sail) {
            MSail m = s(sail, 1);
            if (m == null || now.bolts.size() + m.pieces.size() > 24) {
                return -1;
            }
            for (MPiece p : m.pieces) {
                if (p.bolt < 0) {
                    return -1;
                }
            }
            act();
            for (MPiece p : m.pieces) {
                MBolt b = new MBolt();
                b.width = Math.max(2, m.breadth(p));
                b.length = Math.min(200, m.length(p));
                b.grams = b(p.bolt).grams;
                b.from = sail;
                now.bolts.add(b);
            }
            m.state = 2;
            m.set = false;
            return m.pieces.size();
        }

        int old(int bolt) {
            return b(bolt) == null ? -1 : b(bolt).from;
        }

        boolean undo() {
            if (past.isEmpty()) {
                return false;
            }
            now = past.removeLast();
            return true;
        }

        int count(int what) {
            switch (what) {
                case 0: return now.bolts.size();
                case 1: return now.sails.size();
                case 2: return past.size();
                default: return -1;
            }
        }
    }

    // ---- random calls ----

    private final Random random;
    private final SailLoft x = new SailLoft();
    private final Model m = new Model();
    private final StringBuilder log = new StringBuilder();
    /** What kind of run this is: calls come more or less often, sails are larger or smaller. */
    private final int[] often = new int[21];
    private final int breadth;
    private final int tall;
    private final int wildness;
    /** A run at work: it begins with sails that are cut and laid, and takes and lays again and again. */
    private final boolean atWork;

    private ModelTests(long seed) {
        random = new Random(seed);
        atWork = seed % 3 == 2;
        breadth = new int[] {3, 12, 40, 120, 500}[random.nextInt(atWork ? 3 : 5)];
        tall = new int[] {3, 12, 60}[random.nextInt(atWork ? 2 : 3)];
        wildness = atWork ? 200 : random.nextInt(30) == 0 ? 3 : 40;
        int[] usual = {4, 2, 3, 2, 3, 2, 4, 2, 6, 2, 4, 3, 4, 2, 6, 3, 2, 3, 4, 5, 32};
        for (int n = 0; n < often.length; n++) {
            often[n] = random.nextInt(8) == 0 ? 0 : usual[n] * (1 + random.nextInt(3));
        }
    }

    private int any(int least, int most) {
        if (random.nextInt(wildness) == 0) {
            int[] wild = {least - 1, most + 1, -1, 0, Integer.MIN_VALUE, Integer.MAX_VALUE, random.nextInt()};
            return wild[random.nextInt(wild.length)];
        }
        int kind = random.nextInt(12);
        if (kind == 0) {
            return least;
        }
        if (kind == 1) {
            return most;
        }
        return most < least ? least : least + random.nextInt(most - least + 1);
    }

    private int anySail() {
        if (atWork && random.nextInt(3) > 0) {
            return cutSail();
        }
        return any(0, Math.max(0, m.now.sails.size() - 1));
    }

    private int cutSail() {
        int from = random.nextInt(10);
        for (int n = 0; n < 10; n++) {
            if (m.s((from + n) % 10, 1) != null) {
                return (from + n) % 10;
            }
        }
        return 0;
    }

    private int anyBolt() {
        return any(0, Math.max(0, m.now.bolts.size() - 1));
    }

    private int anyPiece(int sail) {
        MSail s = m.s(sail);
        return any(0, s == null ? 3 : Math.max(0, s.pieces.size() - 1));
    }

    private int anyHeight(int sail) {
        MSail s = m.s(sail);
        return any(0, s == null ? 60 : s.height);
    }

    private int anyGrams() {
        switch (random.nextInt(10)) {
            case 0: return random.nextInt();
            case 1: return random.nextInt(1 << 24);
            case 2: return Float.floatToRawIntBits(1000f) - random.nextInt(3) + 1;
            case 3: return Float.floatToRawIntBits(-0f);
            case 4: return random.nextInt(Float.floatToRawIntBits(1000f));
            default: return Float.floatToRawIntBits(random.nextFloat() * (random.nextBoolean() ? 10f : 1000f));
        }
    }

    private boolean same(String call, long got, long want) {
        log.append(call).append(" = ").append(want).append('\n');
        if (got == want) {
            return true;
        }
        System.out.println(log);
        System.out.println(call + " answered " + got + ", due is " + want);
        return false;
    }

    private static long l(boolean b) {
        return b ? 1L : 0L;
    }

    private boolean workedStep() {
        int s = cutSail();
        int worn = random.nextInt(4) == 0 ? any(0, 100) : 100;
        switch (random.nextInt(6)) {
            case 0: {
                int half = 1 + random.nextInt(breadth), h = 1 + random.nextInt(tall);
                return same("sail " + -half + " " + half + " " + 0 + " " + half + " " + h,
                        x.sail(-half, half, 0, half, h), m.sail(-half, half, 0, half, h));
            }
            case 1: {
                int last = m.now.sails.size() - 1, w = 8 + random.nextInt(13), seam = 1 + random.nextInt(4);
                return same("cut " + last + " " + w + " " + seam, x.cut(last, w, seam), m.cut(last, w, seam));
            }
            case 2: return same("plan " + worn, x.plan(worn), m.plan(worn));
            case 3: return same("take " + s, x.take(s), m.take(s));
            case 4: return same("fewest " + s + " " + worn, x.fewest(s, worn), m.fewest(s, worn));
            default: {
                int i = anyPiece(s), b = m.now.bolts.size() - 1 - random.nextInt(4), place = random.nextInt(4);
                return same("lay " + s + " " + i + " " + b + " " + place + " " + worn,
                        l(x.lay(s, i, b, place, worn)), l(m.lay(s, i, b, place, worn)));
            }
        }
    }

    private boolean beginWork() {
        for (int n = 0; n < 3; n++) {
            int length = 40 + random.nextInt(161), g = anyGrams();
            if (!same("bolt 20 " + length + " " + g, x.bolt(20, length, g), m.bolt(20, length, g))) {
                return false;
            }
        }
        for (int n = 0; n < 40; n++) {
            if (!workedStep()) {
                return false;
            }
        }
        return true;
    }

    private int anyCall() {
        int sum = 0;
        for (int n : often) {
            sum += n;
        }
        int at = random.nextInt(sum + 1);
        for (int n = 0; n < often.length; n++) {
            at -= often[n];
            if (at < 0) {
                return n;
            }
        }
        return 8;
    }

    private boolean step() {
        int s = anySail();
        int b = anyBolt();
        int worn = any(0, 100);
        int i = anyPiece(s);
        int y = anyHeight(s);
        switch (anyCall()) {
            case 0: {
                int w = any(2, 20), length = any(1, 200), g = anyGrams();
                return same("bolt " + w + " " + length + " " + g, x.bolt(w, length, g), m.bolt(w, length, g));
            }
            case 1: {
                int n = any(0, m.b(b) == null ? 5 : m.b(b).length);
                return same("row " + b + " " + n, l(x.row(b, n)), l(m.row(b, n)));
            }
            case 2: {
                int k = any(0, m.b(b) == null ? 5 : m.b(b).row.length);
                return same("wear " + b + " " + k + " " + worn, l(x.wear(b, k, worn)), l(m.wear(b, k, worn)));
            }
            case 3: {
                int k = any(0, m.b(b) == null ? 5 : m.b(b).length);
                return same("worn " + b + " " + k, x.worn(b, k), m.worn(b, k));
            }
            case 4: {
                int fl = any(-breadth, 0), fr = any(0, breadth), hl = any(-breadth, 1), hr = any(0, breadth), h = any(1, tall);
                return same("sail " + fl + " " + fr + " " + hl + " " + hr + " " + h,
                        x.sail(fl, fr, hl, hr, h), m.sail(fl, fr, hl, hr, h));
            }
            case 5: {
                int side = any(0, 1);
                return same("edge " + s + " " + side + " " + (y + 1), l(x.edge(s, side, y + 1)), l(m.edge(s, side, y + 1)));
            }
            case 6: {
                int side = any(0, 1), v = any(-200, 200) / (random.nextBoolean() ? 1 : 100);
                return same("stand " + s + " " + side + " " + y + " " + v, l(x.stand(s, side, y, v)), l(m.stand(s, side, y, v)));
            }
            case 7: {
                int side = any(0, 1);
                return same("at " + s + " " + side + " " + y, x.at(s, side, y), m.at(s, side, y));
            }
            case 8: {
                int w = any(2, 20), seam = any(1, Math.max(1, w == Integer.MIN_VALUE ? 1 : w - 1));
                return same("cut " + s + " " + w + " " + seam, x.cut(s, w, seam), m.cut(s, w, seam));
            }
            case 9: {
                int v = any(0, 50);
                return same("narrow " + s + " " + i + " " + v, l(x.narrow(s, i, v)), l(m.narrow(s, i, v)));
            }
            case 10: {
                int br = any(1, 20), length = any(1, 100) / (random.nextBoolean() ? 1 : 8);
                return same("patch " + s + " " + y + " " + br + " " + length, x.patch(s, y, br, length), m.patch(s, y, br, length));
            }
            case 11: {
                int what = any(0, 8);
                return same("told " + s + " " + what, x.told(s, what), m.told(s, what));
            }
            case 12: {
                int what = any(0, 9);
                return same("panel " + s + " " + i + " " + what, x.panel(s, i, what), m.panel(s, i, what));
            }
            case 13: return same("full " + s + " " + y, x.full(s, y), m.full(s, y));
            case 14: {
                int place = any(0, m.b(b) == null ? 5 : m.b(b).length / 2);
                return same("lay " + s + " " + i + " " + b + " " + place + " " + worn,
                        l(x.lay(s, i, b, place, worn)), l(m.lay(s, i, b, place, worn)));
            }
            case 15: return same("lift " + s + " " + i, l(x.lift(s, i)), l(m.lift(s, i)));
            case 16: return same("left " + b, x.left(b), m.left(b));
            case 17: {
                int k = any(0, m.b(b) == null ? 5 : m.b(b).length);
                return same("over " + b + " " + k, x.over(b, k), m.over(b, k));
            }
            case 18: return same("plan " + worn, x.plan(worn), m.plan(worn));
            case 19: return same("fewest " + s + " " + worn, x.fewest(s, worn), m.fewest(s, worn));
            default: return stepOfWind(s, b, y);
        }
    }

    private boolean stepOfWind(int s, int b, int y) {
        switch (random.nextInt(13)) {
            case 0: {
                int k = any(0, 60), load = random.nextBoolean() ? any(0, 2000000000) : any(0, 200 * breadth);
                return same("mast " + k + " " + load, l(x.mast(k, load)), l(m.mast(k, load)));
            }
            case 1: {
                int k = any(0, 59), v = any(0, 1000);
                return same("wind " + k + " " + v, l(x.wind(k, v)), l(m.wind(k, v)));
            }
            case 2: {
                boolean is = random.nextInt(4) > 0;
                return same("set " + s + " " + is, l(x.set(s, is)), l(m.set(s, is)));
            }
            case 3: return same("reef " + s + " " + y, l(x.reef(s, y)), l(m.reef(s, y)));
            case 4:
            case 5: return same("line " + s + " " + y, x.line(s, y), m.line(s, y));
            case 6: {
                int k = any(0, 60);
                return same("push " + k, x.push(k), m.push(k));
            }
            case 7: return same("bears", x.bears(), m.bears());
            case 8: return same("least", x.least(), m.least());
            case 9: return same("take " + s, x.take(s), m.take(s));
            case 10: return same("old " + b, x.old(b), m.old(b));
            case 11: return same("undo", l(x.undo()), l(m.undo()));
            default: {
                int what = any(0, 2);
                return same("count " + what, x.count(what), m.count(what));
            }
        }
    }

    /** All that can be asked, at the end of a run: a fault that no call has shown yet shows here. */
    private boolean sameAll() {
        boolean good = true;
        for (int what = 0; what <= 2; what++) {
            good &= same("count " + what, x.count(what), m.count(what));
        }
        for (int b = 0; b < m.now.bolts.size(); b++) {
            good &= same("left " + b, x.left(b), m.left(b)) && same("old " + b, x.old(b), m.old(b));
            for (int k = 0; k < m.b(b).length; k += 3) {
                good &= same("over " + b + " " + k, x.over(b, k), m.over(b, k));
                good &= same("worn " + b + " " + k, x.worn(b, k), m.worn(b, k));
            }
        }
        for (int s = 0; s < m.now.sails.size(); s++) {
            for (int what = 0; what <= 8; what++) {
                good &= same("told " + s + " " + what, x.told(s, what), m.told(s, what));
            }
            for (int i = 0; i < m.s(s).pieces.size(); i++) {
                for (int what = 0; what <= 9; what++) {
                    good &= same("panel " + s + " " + i + " " + what, x.panel(s, i, what), m.panel(s, i, what));
                }
            }
        }
        for (int k = 0; k <= 60; k++) {
            good &= same("push " + k, x.push(k), m.push(k));
        }
        return good;
    }

    private boolean run() {
        if (atWork && !beginWork()) {
            return false;
        }
        for (int n = atWork ? 43 : 0; n < CALLS; n++) {
            if (!(atWork && random.nextInt(4) == 0 ? workedStep() : step())) {
                return false;
            }
        }
        if (!sameAll()) {
            return false;
        }
        while (m.count(2) > 0) {
            if (!same("undo", l(x.undo()), l(m.undo()))) {
                return false;
            }
        }
        return sameAll();
    }

    public static void main(String[] args) {
        int runs = args.length > 0 ? Integer.parseInt(args[0]) : RUNS;
        for (long seed = 0; seed < runs; seed++) {
            if (!new ModelTests(seed).run()) {
                System.out.println("seed " + seed + " went wrong");
                System.exit(1);
            }
        }
        System.out.println("all " + runs + " runs are as due");
    }
}
