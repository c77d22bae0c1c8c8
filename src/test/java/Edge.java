import java.util.ArrayList;
import java.util.List;

/** What the tests of edges share: each answer is due by a sentence of the document, which is told if it is not given. */
abstract class Edge {
    static final int NONE = PassScreener.NONE;
    static final int NOTHING = PassScreener.NOTHING;
    static final int MAX = Integer.MAX_VALUE;
    static final int MIN = Integer.MIN_VALUE;

    private final Kit kit = new Kit();
    private final List<String> sentences = new ArrayList<>();
    private String sentence = "";

    /** Begins with a sentence of the document: a promise's number (0: the terms) and its words. */
    final void by(int promise, String words) {
        sentence = promise + ": " + words;
        sentences.add(sentence);
    }

    final void due(String call, long got, long want) {
        kit.due("[" + sentence + "] " + call, got, want);
    }

    final void due(String call, boolean got, boolean want) {
        kit.due("[" + sentence + "] " + call, got, want);
    }

    final void close(String[] args) {
        if (args.length > 0 && args[0].equals("sentences")) {
            sentences.forEach(System.out::println);
        }
        System.out.println(sentences.size() + " sentences");
        kit.close();
    }

    /** All that can be asked for at once, so that it can be told whether a call left all as it was. */
    static String stateOf(PassScreener s) {
        StringBuilder state = new StringBuilder();
        for (int what = 0; what <= 14; what++) {
            state.append(s.has(what)).append(' ');
        }
        for (int body = 0; body < s.has(0); body++) {
            for (int what = 0; what <= 8; what++) {
                state.append(s.body(body, what)).append(' ');
            }
            for (int k = 0; k < 6; k++) {
                state.append(s.letter(body, k)).append(' ');
            }
        }
        for (int k = 0; k < s.has(12); k++) {
            state.append(s.kept(k, 0)).append(' ').append(s.kept(k, 1)).append(' ');
        }
        return state.append(s.fits(NONE)).append(' ').append(s.fits(0)).toString();
    }

    final void dueSame(String call, PassScreener s, String before) {
        due(call + ": all stays", stateOf(s).equals(before), true);
    }

    /** A BODY that goes to and fro between (HEIGHT, 0, 0) and (-HEIGHT, 0, 0), whatever its TILT. */
    static String shuttle(String name, int height, int phase, int fuel) {
        return Kit.body(name, height, height, 2, phase, 0, 0, 0, fuel);
    }

    /** A sky of a GAP, a SIZE, and BODIES by their numbers as a text tells them. */
    static PassScreener skyBy(int gap, int size, int[]... bodies) {
        StringBuilder text = new StringBuilder("gap " + gap + " size " + size + ";");
        for (int k = 0; k < bodies.length; k++) {
            text.append(Kit.body(String.valueOf((char) ('a' + k)), bodies[k]));
        }
        return Kit.skyOf(text.toString());
    }

    /** Ten BODIES named by one letter each, 15 apart from each other. */
    static String tenBodies() {
        StringBuilder text = new StringBuilder();
        for (int k = 0; k < 10; k++) {
            text.append(shuttle(String.valueOf((char) ('a' + k)), 10 + 15 * k, 0, 9));
        }
        return text.toString();
    }

    static int[] imageOf(PassScreener s) {
        int[] bytes = new int[s.image()];
        for (int k = 0; k < bytes.length; k++) {
            bytes[k] = s.octet(k);
        }
        return bytes;
    }

    /** Bytes with the last one that an image of them has. */
    static int[] sealed(int... bytes) {
        int[] row = java.util.Arrays.copyOf(bytes, bytes.length + 1);
        int c = 173;
        for (int k = 0; k < bytes.length; k++) {
            c = (3 * c + bytes[k]) % 251;
        }
        row[bytes.length] = c;
        return row;
    }
}
