/** What tests share: texts put on the tape, answers compared. */
final class Kit {
    private int right;
    private int wrong;

    void due(String what, long got, long want) {
        if (got == want) {
            right++;
        } else {
            wrong++;
            System.out.println(what + " answered " + got + ", due is " + want);
        }
    }

    void due(String what, boolean got, boolean want) {
        due(what, got ? 1 : 0, want ? 1 : 0);
    }

    /** Says how it went and ends the test. */
    void close() {
        System.out.println(right + " answers as due, " + wrong + " not");
        System.exit(wrong == 0 && right > 0 ? 0 : 1);
    }

    /** Puts bytes, and nothing else, on the tape. */
    static void tape(PassScreener screener, int... bytes) {
        screener.end(0);
        for (int from = 0; from < bytes.length; from += 20) {
            int[] words = new int[5];
            for (int k = 0; k < 20; k++) {
                int at = from + k;
                words[k / 4] = words[k / 4] << 8 | (at < bytes.length ? bytes[at] & 255 : 0);
            }
            screener.feed(words[0], words[1], words[2], words[3], words[4]);
        }
        screener.end(bytes.length);
    }

    static void tape(PassScreener screener, String text) {
        int[] bytes = new int[text.length()];
        for (int k = 0; k < bytes.length; k++) {
            bytes[k] = text.charAt(k);
        }
        tape(screener, bytes);
    }

    static int tell(PassScreener screener, String text) {
        tape(screener, text);
        return screener.sky();
    }

    /** A sky that must be without a fault. */
    static PassScreener skyOf(String text) {
        PassScreener screener = new PassScreener();
        if (tell(screener, text) == PassScreener.NONE) {
            throw new IllegalArgumentException(
                    "fault " + screener.fault(0) + " at " + screener.fault(1) + ": " + text);
        }
        return screener;
    }

    /** LOW, HIGH, TURN, PHASE, LIFT, TILT, NODE, FUEL of a body. */
    static String body(String name, int... numbers) {
        String[] words = {"low", "high", "turn", "phase", "lift", "tilt", "node", "fuel"};
        StringBuilder text = new StringBuilder("body ").append(name);
        for (int k = 0; k < words.length; k++) {
            text.append(' ').append(words[k]).append(' ').append(numbers[k]);
        }
        return text.append(";").toString();
    }
}
