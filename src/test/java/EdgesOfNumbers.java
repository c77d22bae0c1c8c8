import java.lang.reflect.Method;
import java.lang.reflect.Modifier;
import java.util.Arrays;

/**
 * Every call with every row of edge numbers, in states at the edge: the answer is the model's, and a call that only asks,
 * or is refused, leaves all as it was. So no number, however large or small, is answered by the machine's own exception.
 */
final class EdgesOfNumbers extends Edge {
    private static final int[] MANY = {MIN, MIN + 1, -1000000, -2, -1, 0, 1, 2, 3, 5, 6, 9, 10, 16, 40, 41, 48, 99, 100, 200,
        201, 400, 401, 999, 1000, 1600, 2400, 2401, 9999, 10000, 1 << 30, MAX - 1, MAX};
    private static final int[] SOME = {MIN, -2, -1, 0, 1, 2, 5, 6, 10, 99, 200, 9999, 10000, 1 << 30, MAX};
    private static final int[] FEW = {MIN, -1, 0, 1, 2, 3, 6, 200, 9999, 10000, MAX};
    private static final String BODIES = "gap 4 size 0;" + Kit.body("a", 10, 10, 4, 0, 0, 0, 0, 9)
            + Kit.body("b", 10, 14, 3, 1, 0, 0, 0, 30) + Kit.body("c", 10, 12, 6, 2, 3, 16, 1, 99);

    private final PassScreener screener = new PassScreener();
    private final Model model = new Model();

    private EdgesOfNumbers() {
    }

    public static void main(String[] args) throws Exception {
        EdgesOfNumbers edges = new EdgesOfNumbers();
        edges.by(1, "No sky, no bodies; the seed is 1.");
        edges.grid();
        edges.by(4, "how many STATEMENTS");
        edges.tell("gap 99 size 20;");
        edges.grid();
        edges.by(4, "Without one all is as told");
        edges.tell(BODIES);
        edges.grid();
        edges.by(45, "A BODY is UP, or down: true");
        edges.call("up", 1, false);
        edges.feed(255, 3, 0, 0);
        edges.call("see", 2);
        edges.grid();
        edges.by(47, "it would be more than 9999");
        edges.call("up", 1, true);
        for (int k = 0; k < 10; k++) {
            edges.call("ticks", 999);
        }
        edges.call("ticks", 9);
        edges.call("up", 0, true);
        edges.call("up", 1, true);
        edges.call("up", 2, true);
        edges.grid();
        edges.by(0, "10 BODIES, numbered from 0 on as told");
        edges.tell(tenOnRings());
        edges.grid();
        edges.callTheLast();
        // Two behind ten: what the eight that are gone left behind must not count.
        edges.by(4, "Without one all is as told, NOW is 0, nothing is SEEN, KEPT, or can be undone; the seed stays.");
        edges.tell("gap 4 size 1;" + Kit.body("a", 10, 10, 4, 0, 0, 0, 0, 9) + Kit.body("b", 10, 14, 3, 1, 0, 8, 2, 30));
        edges.grid();
        edges.close(args);
    }

    /** Ten on rings of all the TURNS from 2 to 10 and of 48, some of which meet. */
    private static String tenOnRings() {
        StringBuilder text = new StringBuilder("gap 6 size 1;");
        int[] turns = {2, 3, 4, 5, 6, 7, 8, 9, 10, 48};
        for (int k = 0; k < 10; k++) {
            text.append(Kit.body(String.valueOf((char) ('a' + k)), 20 + 5 * k, 30 + 7 * k, turns[k], k % turns[k],
                    (k + 3) % turns[k], 16 * k % 17, k % 4, k));
        }
        return text.toString();
    }

    /** Acts of the last of ten, each with what is asked of it then. */
    private void callTheLast() throws Exception {
        Object[][] acts = {{"burn", 9, 0, 1}, {"burn", 9, 1, 3}, {"burn", 9, 3, 1}, {"up", 9, false}, {"up", 9, true},
            {"gap", 40}, {"ticks", 48}, {"chance", 40}, {"undo"}, {"undo"}, {"undo"}};
        for (Object[] act : acts) {
            call((String) act[0], Arrays.copyOfRange(act, 1, act.length));
            for (int what = 0; what < 15; what++) {
                call("has", what);
            }
            for (int other = 0; other < 9; other++) {
                call("sieve", 9, other);
                call("closest", other, 9, 1);
                call("tries", other, 0, 1);
            }
            call("doom", 9);
            call("odds", 9, 40);
            call("clears", 9, 2);
            call("twice", 9, 4);
            call("group", 9);
            call("crowd", 70);
        }
        call("image");
        int[] bytes = new int[72];
        for (int k = 0; k < bytes.length; k++) {
            bytes[k] = (int) call("octet", k);
        }
        feed(bytes);
        call("on");
        call("kept", 0, 0);
    }

    private void tell(String text) throws Exception {
        feed(text.chars().toArray());
        call("sky");
    }

    private void feed(int... bytes) throws Exception {
        call("end", 0);
        for (int from = 0; from < bytes.length; from += 20) {
            Object[] words = {0, 0, 0, 0, 0};
            for (int k = 0; k < 20 && from + k < bytes.length; k++) {
                words[k / 4] = (int) words[k / 4] | bytes[from + k] << 24 - 8 * (k % 4);
            }
            call("feed", words);
        }
        call("end", bytes.length);
    }

    private Object call(String name, Object... args) throws Exception {
        for (Method method : PassScreener.class.getDeclaredMethods()) {
            if (method.getName().equals(name) && Modifier.isPublic(method.getModifiers())) {
                return call(method, args);
            }
        }
        throw new IllegalArgumentException(name);
    }

    private Object call(Method method, Object... args) throws Exception {
        Object want = Model.class.getDeclaredMethod(method.getName(), method.getParameterTypes()).invoke(model, args);
        Object got = method.invoke(screener, args);
        String what = method.getName() + Arrays.toString(args);
        if (got instanceof Boolean) {
            due(what, (boolean) got, (boolean) want);
        } else {
            due(what, (int) got, (int) want);
        }
        return got;
    }

    private void grid() throws Exception {
        for (Method method : PassScreener.class.getDeclaredMethods()) {
            if (Modifier.isPublic(method.getModifiers()) && !method.getName().equals("sky")) {
                String before = stateOf(screener);
                int[] values = method.getParameterCount() < 3 ? MANY : method.getParameterCount() < 4 ? SOME : FEW;
                fill(method, new Object[method.getParameterCount()], 0, values);
                call("seed", 1);
                dueSame(method.getName(), screener, seeded(before));
            }
        }
    }

    /** seed() is the one call of the grid that can't be undone: it is 1 ahead of each, and again behind it. */
    private static String seeded(String state) {
        String[] words = state.split(" ");
        words[7] = "1";
        return String.join(" ", words);
    }

    private void fill(Method method, Object[] args, int at, int[] values) throws Exception {
        if (at == args.length) {
            callAndUndo(method, args);
            return;
        }
        if (method.getParameterTypes()[at] == boolean.class) {
            for (boolean value : new boolean[] {false, true}) {
                args[at] = value;
                fill(method, args, at + 1, values);
            }
            return;
        }
        for (int value : method.getName().equals("feed") ? new int[] {MIN, -1, MAX} : values) {
            args[at] = value;
            fill(method, args, at + 1, values);
        }
    }

    private void callAndUndo(Method method, Object[] args) throws Exception {
        if (method.getName().equals("undo")) {
            return;
        }
        int acts = screener.has(6);
        // What was done longest ago must not be lost by an act that is undone at once.
        if (acts == 20 && isAct(method.getName())) {
            return;
        }
        call(method, args);
        if (screener.has(6) > acts) {
            call("undo");
        }
    }

    private static boolean isAct(String name) {
        return name.equals("burn") || name.equals("up") || name.equals("gap") || name.equals("ticks")
                || name.equals("chance");
    }
}
