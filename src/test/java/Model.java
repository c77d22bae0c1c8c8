import java.util.ArrayDeque;
import java.util.ArrayList;
import java.util.Arrays;
import java.util.Comparator;
import java.util.Deque;
import java.util.List;
import java.util.Set;
import java.util.TreeSet;
import java.util.function.IntPredicate;

/**
 * The document once more, word by word and without any shortcut: what PassScreener answers is compared with it.
 * It shares no code and no idea with PassScreener: places are computed anew for each tick, every cycle is walked.
 */
final class Model {
    static final int NONE = -1;
    static final int NOTHING = -1000000;

    static final class B implements Cloneable {
        String name;
        int low, high, turn, phase, lift, tilt, node, fuel;
        boolean up = true;

        @Override
        public B clone() {
            try {
                return (B) super.clone();
            } catch (CloneNotSupportedException e) {
                throw new IllegalStateException(e);
            }
        }

        int height(int t) {
            int s = (phase + t) % turn;
            int r = (s + lift) % turn;
            int m = Math.min(r, turn - r);
            return low + 2 * (high - low) * m / turn;
        }

        int[] place(int t) {
            int s = (phase + t) % turn;
            int h = height(t);
            int w = 4 * s * h / turn;
            int p;
            int q;
            if (w <= h) {
                p = h - w;
                q = w;
            } else if (w <= 2 * h) {
                p = h - w;
                q = 2 * h - w;
            } else if (w <= 3 * h) {
                p = w - 3 * h;
                q = 2 * h - w;
            } else {
                p = w - 3 * h;
                q = w - 4 * h;
            }
            int y = q * (16 - tilt) / 16;
            int z = q * tilt / 16;
            return switch (node) {
                case 0 -> new int[] {p, y, z};
                case 1 -> new int[] {-y, p, z};
                case 2 -> new int[] {-p, -y, z};
                default -> new int[] {y, -p, z};
            };
        }

        int quarter(int t) {
            int[] at = place(t);
            return (at[0] < 0 ? 1 : 0) + (at[1] < 0 ? 2 : 0);
        }

        boolean within() {
            return low >= 1 && low <= 200 && high >= low && high <= 200 && phase >= 0 && phase < turn && lift >= 0
                    && lift < turn && tilt >= 0 && tilt <= 16 && fuel >= 0 && fuel <= 99;
        }
    }

    record Kept(int tick, int bits) {
    }

    record State(List<B> bodies, int gap, int now, List<Kept> kept) {
    }

    record Burn(int body, int kind, int d, int cost) {
    }

    final List<Integer> tape = new ArrayList<>();
    boolean told;
    List<B> bodies = new ArrayList<>();
    int gap, size, now;
    List<Kept> kept = new ArrayList<>();
    final Deque<State> past = new ArrayDeque<>();
    int seenBody;
    List<int[]> seen = new ArrayList<>();
    int seed = 1;
    int fault, faultPlace = NONE;
    int[] image = {};
    final int[] refused = new int[6];

    int refuse(int what) {
        refused[what]++;
        return NONE;
    }

    boolean refuses(int what) {
        refused[what]++;
        return false;
    }

    int feed(int a, int b, int c, int d, int e) {
        if (tape.size() + 20 > 1600) {
            return refuse(0);
        }
        for (int n : new int[] {a, b, c, d, e}) {
            for (int k = 3; k >= 0; k--) {
                tape.add(n >>> 8 * k & 255);
            }
        }
        return tape.size();
    }

    boolean end(int n) {
        if (n < 0 || n > tape.size()) {
            return refuses(0);
        }
        while (tape.size() > n) {
            tape.remove(tape.size() - 1);
        }
        return true;
    }

    static final class Fault extends Exception {
        private static final long serialVersionUID = 1L;
        final int kind, place;

        Fault(int kind, int place) {
            this.kind = kind;
            this.place = place;
        }
    }

    /** Tokens are cut off the text by patterns, the blanks ahead of them first. */
    static final class Cursor {
        static final Set<String> OWN =
                Set.of("gap", "size", "body", "low", "high", "turn", "phase", "lift", "tilt", "node", "fuel");
        final String text;
        int at;
        boolean glued;

        Cursor(String text) {
            this.text = text;
        }

        String peek(String signs) throws Fault {
            while (at < text.length() && " \n".indexOf(text.charAt(at)) >= 0) {
                at++;
                glued = false;
            }
            String token = text.substring(at).replaceFirst("(?s)^(" + signs + "*).*", "$1");
            if (glued || token.isEmpty()) {
                throw new Fault(1, at);
            }
            return token;
        }

        void pass(String token) {
            at += token.length();
            glued = true;
        }

        int word(String word) throws Fault {
            String token = peek("[a-z]");
            if (!token.equals(word)) {
                throw new Fault(1, at);
            }
            pass(token);
            return at - token.length();
        }

        int number(int least, int most) throws Fault {
            String token = peek("[0-9]");
            if (token.length() > 3) {
                throw new Fault(1, at + 3);
            }
            int value = Integer.parseInt(token);
            if (value < least || value > most) {
                throw new Fault(2, at);
            }
            pass(token);
            return value;
        }

        String name(List<B> there) throws Fault {
            String token = peek("[a-z]");
            if (token.length() > 6) {
                throw new Fault(1, at + 6);
            }
            if (OWN.contains(token)) {
                throw new Fault(1, at);
            }
            for (B b : there) {
                if (b.name.equals(token)) {
                    throw new Fault(3, at);
                }
            }
            pass(token);
            return token;
        }

        void stop() throws Fault {
            glued = false;
            peek(";");
            at++;
            glued = false;
        }

        boolean ended() {
            return text.substring(at).replaceAll("[ \n]", "").isEmpty();
        }
    }

    String tapeText() {
        StringBuilder text = new StringBuilder();
        for (int b : tape) {
            text.append((char) b);
        }
        tape.clear();
        return text.toString();
    }

    int sky() {
        Cursor c = new Cursor(tapeText());
        List<B> read = new ArrayList<>();
        int g;
        int z;
        try {
            c.word("gap");
            g = c.number(0, 99);
            c.word("size");
            z = c.number(0, 20);
            c.stop();
            while (!c.ended()) {
                int at = c.word("body");
                if (read.size() == 10) {
                    throw new Fault(5, at);
                }
                B b = new B();
                b.name = c.name(read);
                c.word("low");
                b.low = c.number(1, 200);
                c.word("high");
                b.high = c.number(b.low, 200);
                c.word("turn");
                b.turn = c.number(2, 48);
                c.word("phase");
                b.phase = c.number(0, b.turn - 1);
                c.word("lift");
                b.lift = c.number(0, b.turn - 1);
                c.word("tilt");
                b.tilt = c.number(0, 16);
                c.word("node");
                b.node = c.number(0, 3);
                c.word("fuel");
                b.fuel = c.number(0, 99);
                c.stop();
                read.add(b);
            }
        } catch (Fault f) {
            fault = f.kind;
            faultPlace = f.place;
            return refuse(1);
        }
        fault = 0;
        faultPlace = NONE;
        told = true;
        gap = g;
        size = z;
        now = 0;
        bodies = read;
        seen.clear();
        kept.clear();
        past.clear();
        return 1 + read.size();
    }

    int fault(int what) {
        return what == 0 ? fault : what == 1 ? faultPlace : NONE;
    }

    boolean is(int b) {
        return b >= 0 && b < bodies.size();
    }

    boolean two(int a, int b) {
        return is(a) && is(b) && a != b;
    }

    static boolean tick(int t) {
        return t >= 0 && t <= 9999;
    }

    int has(int what) {
        switch (what) {
            case 0:
                return bodies.size();
            case 1:
                return (int) bodies.stream().filter(b -> b.up).count();
            case 2:
                return gap;
            case 3:
                return now;
            case 4:
                return theList().size();
            case 5:
                return seen.size();
            case 6:
                return past.size();
            case 7:
                return seed;
            case 8, 9, 10, 11:
                int n = 0;
                for (int a = 0; a < bodies.size(); a++) {
                    for (int b = a + 1; b < bodies.size(); b++) {
                        n += sieve(a, b) == (what == 11 ? 0 : what - 7) ? 1 : 0;
                    }
                }
                return n;
            case 12:
                return Math.min(40, kept.size());
            case 13:
                return size;
            case 14:
                Set<Integer> leaders = new TreeSet<>();
                for (int b = 0; b < bodies.size(); b++) {
                    if (bodies.get(b).up) {
                        leaders.add(group(b));
                    }
                }
                return leaders.size();
            default:
                return NONE;
        }
    }

    int letter(int body, int k) {
        if (!is(body) || k < 0 || k > 5) {
            return NONE;
        }
        String name = bodies.get(body).name;
        return k < name.length() ? name.charAt(k) - 'a' + 1 : 0;
    }

    int named() {
        String name = tapeText();
        for (int b = 0; b < bodies.size(); b++) {
            if (bodies.get(b).name.equals(name)) {
                return b;
            }
        }
        return NONE;
    }

    int body(int body, int what) {
        if (!is(body) || what < 0 || what > 8) {
            return NONE;
        }
        B b = bodies.get(body);
        return new int[] {b.low, b.high, b.turn, b.phase, b.lift, b.tilt, b.node, b.fuel, b.up ? 1 : 0}[what];
    }

    int spot(int body, int tick, int what) {
        if (!is(body) || !tick(tick) || what < 0 || what > 3) {
            return NOTHING;
        }
        B b = bodies.get(body);
        return what == 3 ? b.height(tick) : b.place(tick)[what];
    }

    static int far(B a, B b, int t) {
        int[] p = a.place(t);
        int[] q = b.place(t);
        int sum = 0;
        for (int k = 0; k < 3; k++) {
            sum += (p[k] - q[k]) * (p[k] - q[k]);
        }
        return sum;
    }

    int far(int one, int other, int tick) {
        return two(one, other) && tick(tick) ? far(bodies.get(one), bodies.get(other), tick) : NONE;
    }

    int lean(int body, int other, int tick) {
        if (!two(body, other) || !tick(tick)) {
            return NOTHING;
        }
        int[] at = bodies.get(body).place(tick);
        B plane = bodies.get(other);
        int x = at[0];
        int y = at[1];
        int[][] turned = {{x, y}, {y, -x}, {-x, -y}, {-y, x}};
        return (16 - plane.tilt) * at[2] - plane.tilt * turned[plane.node][1];
    }

    static int cycle(B a, B b) {
        int c = 1;
        while (c % a.turn != 0 || c % b.turn != 0) {
            c++;
        }
        return c;
    }

    List<Integer> windowOf(int body, int other) {
        List<Integer> ticks = new ArrayList<>();
        for (int t = 0; t < bodies.get(body).turn; t++) {
            int lean = lean(body, other, t);
            if (lean >= -16 * gap - 16 && lean <= 16 * gap + 16) {
                ticks.add(t);
            }
        }
        return ticks;
    }

    List<Integer> timesOf(int one, int other) {
        List<Integer> first = windowOf(one, other);
        List<Integer> second = windowOf(other, one);
        B a = bodies.get(one);
        B b = bodies.get(other);
        List<Integer> ticks = new ArrayList<>();
        for (int t = 0; t < cycle(a, b); t++) {
            if (first.contains(t % a.turn) && second.contains(t % b.turn)) {
                ticks.add(t);
            }
        }
        return ticks;
    }

    static boolean shells(B lower, B upper, int gap) {
        int by = upper.low - lower.high - 1;
        return lower.high < upper.low && by * by > 3 * gap * gap;
    }

    int sieve(int one, int other) {
        if (!two(one, other)) {
            return NONE;
        }
        B a = bodies.get(one);
        B b = bodies.get(other);
        if (shells(a, b, gap) || shells(b, a, gap)) {
            return 1;
        }
        if (windowOf(one, other).isEmpty() || windowOf(other, one).isEmpty()) {
            return 2;
        }
        return timesOf(one, other).isEmpty() ? 3 : 0;
    }

    static int pick(List<Integer> list, int k) {
        return k == NONE ? list.size() : k >= 0 && k < list.size() ? list.get(k) : NONE;
    }

    int window(int body, int other, int k) {
        return two(body, other) ? pick(windowOf(body, other), k) : NONE;
    }

    int times(int one, int other, int k) {
        return two(one, other) ? pick(timesOf(one, other), k) : NONE;
    }

    /** The tick, and how far. */
    static int[] closest(B a, B b) {
        int[] best = {0, Integer.MAX_VALUE};
        for (int t = 0; t < cycle(a, b); t++) {
            int far = far(a, b, t);
            if (far < best[1]) {
                best = new int[] {t, far};
            }
        }
        return best;
    }

    boolean wouldBeNear(B a, B b) {
        return closest(a, b)[1] <= gap * gap;
    }

    boolean near(int a, int b) {
        return bodies.get(a).up && bodies.get(b).up && wouldBeNear(bodies.get(a), bodies.get(b));
    }

    int closest(int one, int other, int what) {
        if (!two(one, other) || what < 0 || what > 3) {
            return NONE;
        }
        B a = bodies.get(one);
        B b = bodies.get(other);
        return what < 2 ? closest(a, b)[what] : what == 2 ? cycle(a, b) : near(one, other) ? 1 : 0;
    }

    static boolean span(int from, int to) {
        return tick(from) && tick(to) && from <= to && to <= from + 200;
    }

    static int[] box(B b, int from, int to) {
        int[] box = {9999, 9999, 9999, -9999, -9999, -9999};
        for (int t = from; t <= to; t++) {
            int[] at = b.place(t);
            for (int k = 0; k < 3; k++) {
                box[k] = Math.min(box[k], at[k]);
                box[k + 3] = Math.max(box[k + 3], at[k]);
            }
        }
        return box;
    }

    int box(int body, int from, int to, int what) {
        return is(body) && span(from, to) && what >= 0 && what <= 5 ? box(bodies.get(body), from, to)[what] : NOTHING;
    }

    int apart(int one, int other, int from, int to) {
        if (!two(one, other) || !span(from, to)) {
            return NONE;
        }
        int[] a = box(bodies.get(one), from, to);
        int[] b = box(bodies.get(other), from, to);
        int sum = 0;
        for (int k = 0; k < 3; k++) {
            int by = a[k + 3] < b[k] ? b[k] - a[k + 3] : b[k + 3] < a[k] ? a[k] - b[k + 3] : 0;
            sum += by * by;
        }
        return sum;
    }

    List<int[]> passesOf(int one, int other) {
        B a = bodies.get(one);
        B b = bodies.get(other);
        List<int[]> passes = new ArrayList<>();
        int end = cycle(a, b);
        int t = 0;
        while (t < end) {
            if (far(a, b, t) > gap * gap) {
                t++;
                continue;
            }
            int from = t;
            int best = t;
            while (t < end && far(a, b, t) <= gap * gap) {
                if (far(a, b, t) < far(a, b, best)) {
                    best = t;
                }
                t++;
            }
            passes.add(new int[] {from, t - from, best, far(a, b, best)});
        }
        return passes;
    }

    int passes(int one, int other) {
        return two(one, other) ? passesOf(one, other).size() : NONE;
    }

    int pass(int one, int other, int k, int what) {
        if (!two(one, other) || what < 0 || what > 3 || k < 0 || k >= passesOf(one, other).size()) {
            return NONE;
        }
        return passesOf(one, other).get(k)[what];
    }

    List<int[]> theList() {
        List<int[]> list = new ArrayList<>();
        for (int a = 0; a < bodies.size(); a++) {
            for (int b = a + 1; b < bodies.size(); b++) {
                if (near(a, b)) {
                    int[] c = closest(bodies.get(a), bodies.get(b));
                    list.add(new int[] {a, b, c[0], c[1]});
                }
            }
        }
        list.sort(Comparator.<int[]>comparingInt(r -> r[3]).thenComparingInt(r -> r[2]).thenComparingInt(r -> r[0])
                .thenComparingInt(r -> r[1]));
        return list;
    }

    int list(int k, int what) {
        List<int[]> list = theList();
        return k < 0 || k >= list.size() || what < 0 || what > 3 ? NONE : list.get(k)[what];
    }

    int next(int what) {
        if (what < 0 || what > 3) {
            return NONE;
        }
        for (int t = now; t <= now + 2400; t++) {
            for (int a = 0; a < bodies.size(); a++) {
                for (int b = a + 1; b < bodies.size(); b++) {
                    if (bodies.get(a).up && bodies.get(b).up) {
                        int far = far(bodies.get(a), bodies.get(b), t);
                        if (far <= gap * gap) {
                            return new int[] {t, a, b, far}[what];
                        }
                    }
                }
            }
        }
        return NONE;
    }

    int threats(int body) {
        return is(body) ? threats(bodies.get(body), body) : NONE;
    }

    int threats(B tried, int number) {
        int n = 0;
        for (int b = 0; b < bodies.size(); b++) {
            n += b != number && bodies.get(b).up && wouldBeNear(tried, bodies.get(b)) ? 1 : 0;
        }
        return n;
    }

    int group(int body) {
        if (!is(body) || !bodies.get(body).up) {
            return NONE;
        }
        TreeSet<Integer> group = new TreeSet<>();
        Deque<Integer> open = new ArrayDeque<>(List.of(body));
        while (!open.isEmpty()) {
            int a = open.pop();
            if (group.add(a)) {
                for (int b = 0; b < bodies.size(); b++) {
                    if (b != a && near(a, b)) {
                        open.push(b);
                    }
                }
            }
        }
        return group.first();
    }

    int chances(int one, int other, int e, int what) {
        if (!two(one, other) || e < 0 || e > 5 || what < 0 || what > 1) {
            return NONE;
        }
        int rows = 0;
        int near = 0;
        for (int i = -e; i <= e; i++) {
            for (int j = -e; j <= e; j++) {
                B a = bodies.get(one).clone();
                B b = bodies.get(other).clone();
                a.phase = Math.floorMod(a.phase + i, a.turn);
                b.phase = Math.floorMod(b.phase + j, b.turn);
                rows++;
                near += what == 0 && wouldBeNear(a, b) ? 1 : 0;
            }
        }
        return what == 0 ? near : rows;
    }

    int margin(int one, int other) {
        for (int e = 0; e <= 5; e++) {
            if (chances(one, other, e, 0) > 0) {
                return e;
            }
        }
        return NONE;
    }

    int watch(int e, int what) {
        if (e < 0 || e > 5 || what < 0 || what > 2) {
            return NONE;
        }
        int[] best = {NONE, NONE, NONE};
        for (int a = 0; a < bodies.size(); a++) {
            for (int b = a + 1; b < bodies.size(); b++) {
                if (bodies.get(a).up && bodies.get(b).up) {
                    int rows = chances(a, b, e, 0);
                    if (rows > best[2]) {
                        best = new int[] {a, b, rows};
                    }
                }
            }
        }
        return best[what];
    }

    int remains(int k, int what) {
        if (what < 0 || what > 1) {
            return NONE;
        }
        List<int[]> left = new ArrayList<>();
        for (int a = 0; a < bodies.size(); a++) {
            for (int b = a + 1; b < bodies.size(); b++) {
                if (sieve(a, b) == 0) {
                    left.add(new int[] {a, b});
                }
            }
        }
        return k < 0 || k >= left.size() ? NONE : left.get(k)[what];
    }

    int crowd(int height) {
        return height < 0 ? NONE
                : (int) bodies.stream().filter(b -> b.up && b.low <= height && b.high >= height).count();
    }

    int crowded(int what) {
        int best = 0;
        for (int h = 1; h <= 200; h++) {
            best = crowd(h) > crowd(best) ? h : best;
        }
        return best == 0 || what < 0 || what > 1 ? NONE : what == 0 ? best : crowd(best);
    }

    int kept(int k, int what) {
        List<Kept> told = kept.subList(Math.max(0, kept.size() - 40), kept.size());
        if (k < 0 || k >= told.size() || what < 0 || what > 1) {
            return NONE;
        }
        return what == 0 ? told.get(k).tick() : told.get(k).bits();
    }

    static int crashing(List<B> all, int t, int size) {
        int bits = 0;
        for (int a = 0; a < all.size(); a++) {
            for (int b = 0; b < all.size(); b++) {
                if (a != b && all.get(a).up && all.get(b).up && far(all.get(a), all.get(b), t) <= size * size) {
                    bits |= 1 << a;
                }
            }
        }
        return bits;
    }

    static void down(List<B> all, int bits) {
        for (int b = 0; b < all.size(); b++) {
            if ((bits >> b & 1) == 1) {
                all.get(b).up = false;
            }
        }
    }

    static List<B> copy(List<B> all) {
        List<B> copies = new ArrayList<>();
        for (B b : all) {
            copies.add(b.clone());
        }
        return copies;
    }

    List<B> ahead(List<B> from, int n) {
        List<B> all = copy(from);
        for (int t = now; t < now + n; t++) {
            down(all, crashing(all, t, size));
        }
        return all;
    }

    int doom(int body) {
        if (!is(body) || !bodies.get(body).up) {
            return NONE;
        }
        List<B> all = copy(bodies);
        for (int n = 1; n <= 2400; n++) {
            int bits = crashing(all, now + n - 1, size);
            down(all, bits);
            if ((bits >> body & 1) == 1) {
                return n;
            }
        }
        return NONE;
    }

    int stays(int n) {
        if (n < 0 || n > 2400 || !told) {
            return NONE;
        }
        List<B> all = ahead(bodies, n);
        int bits = 0;
        for (int b = 0; b < all.size(); b++) {
            bits |= all.get(b).up ? 1 << b : 0;
        }
        return bits;
    }

    int odds(int body, int n) {
        if (!is(body) || !bodies.get(body).up || n < 1 || n > 400) {
            return NONE;
        }
        int safe = 0;
        for (int phase = 0; phase < bodies.get(body).turn; phase++) {
            List<B> all = copy(bodies);
            all.get(body).phase = phase;
            safe += ahead(all, n).get(body).up ? 1 : 0;
        }
        return safe;
    }

    static int cost(B b, int kind, int d) {
        return kind < 2 ? Math.min(d, b.turn - d) : kind < 4 ? 2 * d : 3 * d;
    }

    /** The body behind a burn; null if it can't be. */
    static B burnt(B b, int kind, int d) {
        if (kind < 0 || kind > 5 || d < 1 || d > 1000 || kind < 2 && d > b.turn - 1 || cost(b, kind, d) > b.fuel) {
            return null;
        }
        B c = b.clone();
        c.fuel -= cost(b, kind, d);
        switch (kind) {
            case 0 -> c.phase = (c.phase + d) % c.turn;
            case 1 -> c.lift = (c.lift + d) % c.turn;
            case 2 -> {
                c.low += d;
                c.high += d;
            }
            case 3 -> {
                c.low -= d;
                c.high -= d;
            }
            case 4 -> c.tilt += d;
            default -> c.tilt -= d;
        }
        return c.within() ? c : null;
    }

    /** All burns of a body, by cost, then body, kind, d. */
    List<Burn> burns(int body) {
        List<Burn> all = new ArrayList<>();
        B b = bodies.get(body);
        for (int kind = 0; kind < 6; kind++) {
            for (int d = 1; d <= 200; d++) {
                if (burnt(b, kind, d) != null) {
                    all.add(new Burn(body, kind, d, cost(b, kind, d)));
                }
            }
        }
        all.sort(Comparator.comparingInt(Burn::cost));
        return all;
    }

    B burnt(Burn burn) {
        return burnt(bodies.get(burn.body()), burn.kind(), burn.d());
    }

    int saves(int body, int what) {
        if (!is(body) || !bodies.get(body).up || what < 0 || what > 2 || ahead(bodies, 400).get(body).up) {
            return NONE;
        }
        for (Burn burn : burns(body)) {
            List<B> all = copy(bodies);
            all.set(body, burnt(burn));
            if (ahead(all, 400).get(body).up) {
                return new int[] {burn.kind(), burn.d(), burn.cost()}[what];
            }
        }
        return NONE;
    }

    int tries(int body, int kind, int d) {
        if (!is(body) || !bodies.get(body).up) {
            return NONE;
        }
        B b = burnt(bodies.get(body), kind, d);
        return b == null ? NONE : threats(b, body);
    }

    int clears(int body, int what) {
        if (!is(body) || !bodies.get(body).up || what < 0 || what > 2 || threats(body) == 0) {
            return NONE;
        }
        for (Burn burn : burns(body)) {
            if (threats(burnt(burn), body) == 0) {
                return new int[] {burn.kind(), burn.d(), burn.cost()}[what];
            }
        }
        return NONE;
    }

    int clearing(int what) {
        if (what < 0 || what > 3 || theList().isEmpty()) {
            return NONE;
        }
        List<Burn> all = new ArrayList<>();
        for (int b = 0; b < bodies.size(); b++) {
            if (bodies.get(b).up) {
                all.addAll(burns(b));
            }
        }
        all.sort(Comparator.comparingInt(Burn::cost));
        for (Burn burn : all) {
            B was = bodies.get(burn.body());
            bodies.set(burn.body(), burnt(burn));
            boolean clear = theList().isEmpty();
            bodies.set(burn.body(), was);
            if (clear) {
                return new int[] {burn.body(), burn.kind(), burn.d(), burn.cost()}[what];
            }
        }
        return NONE;
    }

    int twice(int body, int what) {
        if (!is(body) || !bodies.get(body).up || what < 0 || what > 4 || threats(body) == 0) {
            return NONE;
        }
        B b = bodies.get(body);
        int[] best = null;
        for (int kind = 0; kind < 6; kind++) {
            for (int d = 1; d <= 5; d++) {
                B one = burnt(b, kind, d);
                for (int n = 0; n < 30 && one != null; n++) {
                    B two = burnt(one, n / 5, n % 5 + 1);
                    int cost = two == null ? 0 : b.fuel - two.fuel;
                    if (two != null && (best == null || cost < best[4]) && threats(two, body) == 0) {
                        best = new int[] {kind, d, n / 5, n % 5 + 1, cost};
                    }
                }
            }
        }
        return best == null ? NONE : best[what];
    }

    int room(int one, int other) {
        if (!two(one, other)) {
            return NONE;
        }
        int far = closest(bodies.get(one), bodies.get(other))[1];
        int g = 99;
        while (g >= 0 && far <= g * g) {
            g--;
        }
        return g;
    }

    int see(int body) {
        List<Integer> bytes = new ArrayList<>(tape);
        tape.clear();
        if (!is(body) || bytes.isEmpty() || bytes.size() > 32 || bytes.size() % 2 == 1) {
            return refuse(5);
        }
        List<int[]> rows = new ArrayList<>();
        for (int k = 0; k < bytes.size(); k += 2) {
            rows.add(new int[] {bytes.get(k), bytes.get(k + 1)});
        }
        if (rows.stream().anyMatch(r -> r[1] > 3)) {
            return refuse(5);
        }
        seen = rows;
        seenBody = body;
        return rows.size();
    }

    List<Integer> fitting() {
        List<Integer> phases = new ArrayList<>();
        B b = bodies.get(seenBody).clone();
        for (int phase = 0; phase < b.turn; phase++) {
            b.phase = phase;
            if (seen.stream().allMatch(r -> b.quarter(r[0]) == r[1])) {
                phases.add(phase);
            }
        }
        return phases;
    }

    int fits(int k) {
        return seen.isEmpty() ? NONE : pick(fitting(), k);
    }

    int tells(int what) {
        if (seen.isEmpty() || what < 0 || what > 1 || fitting().isEmpty()) {
            return NONE;
        }
        B b = bodies.get(seenBody).clone();
        int[] best = {NONE, Integer.MAX_VALUE};
        for (int t = 0; t < b.turn; t++) {
            int[] left = new int[4];
            for (int phase : fitting()) {
                b.phase = phase;
                left[b.quarter(t)]++;
            }
            int most = Arrays.stream(left).max().getAsInt();
            if (most < best[1]) {
                best = new int[] {t, most};
            }
        }
        return best[what];
    }

    void keep() {
        past.addLast(new State(copy(bodies), gap, now, new ArrayList<>(kept)));
        if (past.size() > 20) {
            past.removeFirst();
        }
    }

    int burn(int body, int kind, int d) {
        B b = is(body) && bodies.get(body).up ? burnt(bodies.get(body), kind, d) : null;
        if (b == null) {
            return refuse(3);
        }
        keep();
        bodies.set(body, b);
        return b.fuel;
    }

    boolean up(int body, boolean up) {
        if (!is(body) || bodies.get(body).up == up) {
            return refuses(2);
        }
        keep();
        bodies.get(body).up = up;
        return true;
    }

    boolean gap(int to) {
        if (!told || to < 0 || to > 99 || to == gap) {
            return refuses(3);
        }
        keep();
        gap = to;
        return true;
    }

    void go(int n) {
        for (int k = 0; k < n; k++) {
            int bits = crashing(bodies, now, size);
            if (bits != 0) {
                down(bodies, bits);
                kept.add(new Kept(now, bits));
            }
            now++;
        }
    }

    int ticks(int n) {
        if (!told || n < 1 || n > 999 || now + n > 9999) {
            return refuse(2);
        }
        keep();
        go(n);
        return now;
    }

    int draw(int m) {
        seed = (int) ((1103515245L * seed + 12345L) % (1L << 31));
        return seed / 64 % m;
    }

    int chance(int n) {
        if (n < 1 || n > 40 || now + 7 * n > 9999 || bodies.isEmpty()) {
            return refuse(2);
        }
        keep();
        for (int k = 0; k < n; k++) {
            B b = bodies.get(draw(bodies.size()));
            switch (draw(3)) {
                case 0 -> b.up = !b.up;
                case 1 -> b.phase = draw(b.turn);
                default -> b.lift = draw(b.turn);
            }
            go(draw(8));
        }
        return now;
    }

    boolean undo() {
        if (past.isEmpty()) {
            return refuses(4);
        }
        State was = past.removeLast();
        bodies = was.bodies();
        gap = was.gap();
        now = was.now();
        kept = was.kept();
        return true;
    }

    boolean seed(int seed) {
        if (seed < 0) {
            return refuses(5);
        }
        this.seed = seed;
        return true;
    }

    int[] paint(int gap, List<B> all) {
        List<Integer> bytes = new ArrayList<>();
        bytes.add(gap);
        for (B b : all) {
            bytes.addAll(List.of(b.up ? 1 : 0, b.low, b.high, b.phase, b.lift, b.tilt, b.fuel));
        }
        int c = 173;
        for (int b : bytes) {
            c = (3 * c + b) % 251;
        }
        bytes.add(c);
        return bytes.stream().mapToInt(Integer::intValue).toArray();
    }

    int image() {
        image = paint(gap, bodies);
        return image.length;
    }

    int octet(int k) {
        return k < 0 || k >= image.length ? NONE : image[k];
    }

    boolean on() {
        int[] bytes = tape.stream().mapToInt(Integer::intValue).toArray();
        tape.clear();
        if (!told || bytes.length != 2 + 7 * bodies.size() || bytes[0] > 99) {
            return refuses(5);
        }
        List<B> all = copy(bodies);
        IntPredicate isFlag = n -> n == 0 || n == 1;
        for (int b = 0; b < all.size(); b++) {
            int[] row = Arrays.copyOfRange(bytes, 1 + 7 * b, 8 + 7 * b);
            B to = all.get(b);
            to.up = row[0] == 1;
            to.low = row[1];
            to.high = row[2];
            to.phase = row[3];
            to.lift = row[4];
            to.tilt = row[5];
            to.fuel = row[6];
            if (!isFlag.test(row[0]) || !to.within()) {
                return refuses(5);
            }
        }
        if (!Arrays.equals(bytes, paint(bytes[0], all))) {
            return refuses(5);
        }
        gap = bytes[0];
        bodies = all;
        kept.clear();
        past.clear();
        return true;
    }

    int status(int what) {
        return what < 0 || what > 5 ? NONE : refused[what];
    }
}
