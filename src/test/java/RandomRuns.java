import java.lang.reflect.Method;
import java.lang.reflect.Modifier;
import java.util.ArrayList;
import java.util.Arrays;
import java.util.Comparator;
import java.util.List;
import java.util.Random;

/**
 * Runs of calls drawn by a fixed seed, on a PassScreener and on the Model at once: every answer must be the same.
 * Arguments: the source file (not used here), the first seed, how many runs.
 */
final class RandomRuns {
    private static final int CALLS_MOST = 500;

    private final Random random;
    private final PassScreener screener = new PassScreener();
    private final Model model = new Model();
    private final List<String> calls = new ArrayList<>();
    private final List<Method> methods;
    private boolean isLarge;
    private int wrong;

    private RandomRuns(long seed, List<Method> methods) {
        random = new Random(seed);
        this.methods = methods;
    }

    public static void main(String[] args) throws Exception {
        long first = args.length > 1 ? Long.parseLong(args[1]) : 1;
        int runs = args.length > 2 ? Integer.parseInt(args[2]) : 150;
        List<Method> methods = new ArrayList<>();
        for (Method method : PassScreener.class.getDeclaredMethods()) {
            if (Modifier.isPublic(method.getModifiers())) {
                methods.add(method);
            }
        }
        methods.sort(Comparator.comparing(Method::getName));
        int wrong = 0;
        long calls = 0;
        for (int run = 0; run < runs; run++) {
            RandomRuns one = new RandomRuns(first + run, methods);
            one.run();
            calls += one.calls.size();
            if (one.wrong > 0) {
                wrong++;
                System.out.println("seed " + (first + run) + ": " + one.calls.get(one.calls.size() - 1));
            }
        }
        System.out.println(runs + " runs, " + calls + " calls, " + wrong + " runs with another answer");
        System.exit(wrong == 0 ? 0 : 1);
    }

    private int below(int n) {
        return random.nextInt(n);
    }

    private void run() throws Exception {
        if (below(4) == 0) {
            for (int k = 0; k < 30 && wrong == 0; k++) {
                callAny();
            }
        }
        while (calls.size() < CALLS_MOST - 60 && wrong == 0) {
            if (below(4) == 0) {
                search();
                continue;
            }
            tellSky(skyText());
            int more = 40 + below(200);
            for (int k = 0; k < more && calls.size() < CALLS_MOST - 60 && wrong == 0; k++) {
                callAny();
            }
        }
    }

    private void callAny() throws Exception {
        int way = below(40);
        if (way == 0) {
            feedAll(nameBytes());
            call("named");
        } else if (way <= 2) {
            feedAll(seenBytes());
            call("see", body());
        } else if (way == 3) {
            feedAll(imageBytes());
            call("on");
        } else {
            Method method = methods.get(below(methods.size()));
            boolean isDear = List.of("twice", "clears", "clearing", "saves", "odds", "watch", "chances", "margin")
                    .contains(method.getName());
            if (isDear && below(isLarge ? 12 : 3) != 0 || method.getName().equals("sky") && below(5) != 0) {
                return;
            }
            call(method.getName(), arguments(method));
        }
    }

    private Object call(String name, Object... args) throws Exception {
        if (wrong > 0) {
            return null;
        }
        for (Method method : methods) {
            if (!method.getName().equals(name)) {
                continue;
            }
            Method twin = Model.class.getDeclaredMethod(name, method.getParameterTypes());
            Object due = twin.invoke(model, args);
            Object got = method.invoke(screener, args);
            calls.add(name + Arrays.toString(args) + " answered " + got + ", due is " + due);
            wrong += got.equals(due) ? 0 : 1;
            return got;
        }
        throw new IllegalArgumentException(name);
    }

    private void feedAll(byte[] bytes) throws Exception {
        call("end", 0);
        for (int from = 0; from < bytes.length; from += 20) {
            Object[] words = new Object[5];
            for (int k = 0; k < 5; k++) {
                int word = 0;
                for (int n = 0; n < 4; n++) {
                    int at = from + 4 * k + n;
                    word = word << 8 | (at < bytes.length ? bytes[at] & 255 : 32);
                }
                words[k] = word;
            }
            call("feed", words);
        }
        call("end", bytes.length);
    }

    /** A small sky whose searches are asked for in any order, so that one could be taken for another. */
    private void search() throws Exception {
        tellSky(searchedText());
        int bodies = model.bodies.size();
        for (int k = 0; k < 40 && wrong == 0; k++) {
            int body = below(bodies);
            switch (below(10)) {
                case 0 -> call("clears", body, below(3));
                case 1, 2 -> call("saves", body, below(3));
                case 3, 4 -> call("twice", body, below(5));
                case 5 -> call("clearing", below(4));
                case 6 -> call("odds", body, 1 + below(below(2) == 0 ? 400 : 20));
                case 7 -> call("tries", body, below(6), 1 + below(16));
                case 8 -> call("sieve", body, below(bodies));
                default -> {
                    if (below(3) == 0) {
                        String[] acts = {"burn", "up", "gap", "ticks", "chance", "undo"};
                        String name = acts[below(acts.length)];
                        for (Method method : methods) {
                            if (method.getName().equals(name)) {
                                call(name, arguments(method));
                            }
                        }
                    }
                }
            }
        }
    }

    /** Bodies that meet often, at heights at which a burn of any kind may be the one that helps. */
    private String searchedText() {
        int bodies = 2 + below(3);
        boolean isHigh = below(2) == 0;
        int base = isHigh ? 100 + below(60) : 1 + below(20);
        int gap = isHigh ? 4 + below(20) : below(6);
        int[] turns = {2, 3, 4, 4, 5, 6, 7, 8, 12};
        StringBuilder text = new StringBuilder();
        int size = below(2) == 0 ? Math.min(20, gap) : below(4);
        text.append("gap ").append(gap).append(" size ").append(size).append(';');
        for (int b = 0; b < bodies; b++) {
            int low = base + below(below(2) == 0 ? 2 : 12);
            int high = Math.min(200, low + (below(2) == 0 ? 0 : below(40)));
            int turn = turns[below(turns.length)];
            int tilt = below(3) == 0 ? 16 * below(2) : below(17);
            text.append(Kit.body("" + (char) ('a' + b), low, high, turn, below(turn), below(turn), tilt, below(4),
                    below(4) == 0 ? below(12) : below(100)));
        }
        return text.toString();
    }

    private void tellSky(String text) throws Exception {
        if (below(8) == 0) {
            StringBuilder spoilt = new StringBuilder(text);
            int at = below(text.length());
            String signs = " ;0123456789abglpyx\n-A";
            switch (below(4)) {
                case 0 -> spoilt.deleteCharAt(at);
                case 1 -> spoilt.insert(at, signs.charAt(below(signs.length())));
                case 2 -> spoilt.setCharAt(at, signs.charAt(below(signs.length())));
                default -> spoilt.setLength(at);
            }
            feedAll(bytesOf(spoilt.toString()));
            call("sky");
            call("fault", 0);
            call("fault", 1);
        }
        feedAll(bytesOf(text));
        call("sky");
        call("fault", 0);
        call("fault", 1);
    }

    private static byte[] bytesOf(String text) {
        byte[] bytes = new byte[text.length()];
        for (int k = 0; k < bytes.length; k++) {
            bytes[k] = (byte) text.charAt(k);
        }
        return bytes;
    }

    private String skyText() {
        isLarge = below(3) == 0;
        int[] turns = {2, 3, 4, 5, 6, 8, 10, 12};
        int bodies = isLarge ? below(5) : below(12) == 0 ? 11 : below(11);
        int base = 1 + below(150);
        int spread = 1 + below(50);
        int most = below(3) == 0 ? 4 : 16;
        StringBuilder text = new StringBuilder();
        text.append("gap ").append(below(below(2) == 0 ? 12 : 60)).append(" size ");
        text.append(below(below(2) == 0 ? 4 : 21)).append(';');
        for (int b = 0; b < bodies; b++) {
            int low = Math.min(200, base + below(spread));
            int high = Math.min(200, low + (below(3) == 0 ? 0 : below(30)));
            int turn = isLarge ? 2 + below(47) : turns[below(turns.length)];
            text.append(below(4) == 0 ? "\n" : "").append("body ").append((char) ('a' + b));
            for (int k = below(6); k > 0; k--) {
                text.append((char) ('a' + below(26)));
            }
            text.append(" low ").append(low).append(" high ").append(high).append(" turn ").append(turn);
            text.append(" phase ").append(below(turn)).append(" lift ").append(below(turn)).append(" tilt ");
            text.append(below(most + 1)).append(" node ").append(below(4)).append(" fuel ");
            text.append(below(below(2) == 0 ? 30 : 100)).append(below(4) == 0 ? " ;" : ";");
        }
        return text.toString();
    }

    private byte[] nameBytes() {
        if (model.bodies.isEmpty() || below(4) == 0) {
            return bytesOf(new String[] {"", "a", "zz", "gap", "a b", "abcdefg", "\n"}[below(7)]);
        }
        String name = model.bodies.get(below(model.bodies.size())).name;
        return bytesOf(new String[] {name, name, name, name + " ", name.substring(1), name + "a"}[below(6)]);
    }

    private byte[] seenBytes() {
        int rows = below(5) == 0 ? below(18) : 1 + below(3);
        byte[] bytes = new byte[2 * rows + (below(12) == 0 ? 1 : 0)];
        int quarter = below(4);
        for (int k = 0; k < bytes.length; k++) {
            bytes[k] = (byte) (k % 2 == 0 ? below(256) : below(10) == 0 ? below(5) : quarter);
        }
        if (!model.bodies.isEmpty() && below(2) == 0) {
            Model.B b = model.bodies.get(below(model.bodies.size()));
            for (int k = 1; k < bytes.length; k += 2) {
                bytes[k] = (byte) b.quarter(bytes[k - 1] & 255);
            }
        }
        return bytes;
    }

    private byte[] imageBytes() {
        List<Model.B> bodies = Model.copy(model.bodies);
        for (Model.B b : bodies) {
            b.up = below(3) != 0;
            b.phase = below(b.turn + (below(20) == 0 ? 1 : 0));
            b.lift = below(b.turn + (below(20) == 0 ? 1 : 0));
            b.low = 1 + below(200);
            b.high = below(30) == 0 ? below(256) : b.low + below(201 - b.low);
            b.tilt = below(17 + (below(20) == 0 ? 1 : 0));
            b.fuel = below(100 + (below(20) == 0 ? 1 : 0));
        }
        int[] painted = model.paint(below(10) == 0 ? below(120) : below(40), bodies);
        byte[] bytes = new byte[painted.length + (below(15) == 0 ? 1 : 0)];
        for (int k = 0; k < painted.length; k++) {
            bytes[k] = (byte) painted[k];
        }
        if (below(10) == 0) {
            bytes[below(bytes.length)] = (byte) below(256);
        }
        return bytes;
    }

    private int body() {
        return below(15) == 0 ? below(14) - 2 : below(Math.max(1, model.bodies.size()));
    }

    private int tick() {
        return below(8) == 0 ? new int[] {-1, 0, 9999, 10000, 9998}[below(5)] : below(below(2) == 0 ? 60 : 10000);
    }

    private int small(int most) {
        return below(12) == 0 ? new int[] {-2, -1, most + 1, Integer.MAX_VALUE, Integer.MIN_VALUE}[below(5)]
                : below(most + 1);
    }

    private Object[] arguments(Method method) {
        switch (method.getName()) {
            case "feed":
                return new Object[] {random.nextInt(), random.nextInt(), 0, -1, 538976288};
            case "end":
                return new Object[] {below(2) == 0 ? 0 : small(40)};
            case "has":
                return new Object[] {small(14)};
            case "letter":
                return new Object[] {body(), small(5)};
            case "body":
                return new Object[] {body(), small(8)};
            case "spot":
                return new Object[] {body(), tick(), small(3)};
            case "far", "lean":
                return new Object[] {body(), body(), tick()};
            case "window", "times":
                return new Object[] {body(), body(), below(3) == 0 ? -1 : small(9)};
            case "closest":
                return new Object[] {body(), body(), small(3)};
            case "box":
                int from = tick();
                return new Object[] {body(), from, from + small(below(2) == 0 ? 9 : 205) % 300, small(5)};
            case "apart":
                int start = tick();
                return new Object[] {body(), body(), start, start + small(below(2) == 0 ? 9 : 205) % 300};
            case "pass":
                return new Object[] {body(), body(), small(2), small(3)};
            case "chances":
                return new Object[] {body(), body(), small(isLarge ? 2 : 5), small(1)};
            case "watch":
                return new Object[] {small(isLarge ? 2 : 5), small(2)};
            case "list", "remains":
                return new Object[] {small(below(2) == 0 ? 3 : 20), small(3)};
            case "next", "clearing":
                return new Object[] {small(3)};
            case "crowd":
                return new Object[] {small(210)};
            case "crowded", "tells":
                return new Object[] {small(1)};
            case "kept":
                return new Object[] {small(below(2) == 0 ? 3 : 40), small(1)};
            case "stays":
                return new Object[] {small(below(2) == 0 ? 50 : 2400)};
            case "odds":
                return new Object[] {body(), small(below(2) == 0 ? 30 : 400)};
            case "saves", "clears":
                return new Object[] {body(), small(2)};
            case "twice":
                return new Object[] {body(), small(4)};
            case "tries", "burn":
                return new Object[] {body(), small(5), small(below(2) == 0 ? 6 : 60)};
            case "fits":
                return new Object[] {below(2) == 0 ? -1 : small(5)};
            case "up":
                return new Object[] {body(), below(4) != 0};
            case "gap":
                return new Object[] {small(below(2) == 0 ? 12 : 99)};
            case "ticks":
                return new Object[] {small(below(3) == 0 ? 999 : 20)};
            case "chance":
                return new Object[] {small(below(3) == 0 ? 40 : 4)};
            case "seed":
                return new Object[] {below(8) == 0 ? small(9) : below(Integer.MAX_VALUE)};
            case "octet":
                return new Object[] {small(72)};
            case "status":
                return new Object[] {small(5)};
            case "fault":
                return new Object[] {small(1)};
            default:
                Object[] bodies = new Object[method.getParameterCount()];
                for (int k = 0; k < bodies.length; k++) {
                    bodies[k] = body();
                }
                return bodies;
        }
    }
}
