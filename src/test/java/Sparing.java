import java.lang.management.ManagementFactory;

/**
 * All calls of a run live in one room: a new object takes little of it, and a call nothing at all. Every method is
 * called on a full sky, with what is allocated meanwhile counted.
 */
final class Sparing {
    private static final long NEW_OBJECT_BYTES_MOST = 64000;
    private static final com.sun.management.ThreadMXBean THREADS =
            (com.sun.management.ThreadMXBean) ManagementFactory.getThreadMXBean();

    private Sparing() {
    }

    private static long allocated() {
        return THREADS.getThreadAllocatedBytes(Thread.currentThread().getId());
    }

    public static void main(String[] args) {
        String text = "gap 9 size 3;";
        for (int b = 0; b < 10; b++) {
            int turn = 39 + b;
            text += Kit.body("" + (char) ('a' + b), 60 + b, 70 + b, turn, b, 2 * b, b, b % 4, 99);
        }
        int[] sky = new int[(text.length() + 19) / 20 * 5];
        for (int k = 0; k < sky.length * 4; k++) {
            sky[k / 4] = sky[k / 4] << 8 | (k < text.length() ? text.charAt(k) : 32);
        }
        long sum = drive(new PassScreener(), sky);
        boolean isFine = false;
        // The machine itself may take something once, as it loads a class: a later try tells.
        for (int attempt = 0; attempt < 3 && !isFine; attempt++) {
            isFine = isSparing(sky, sum);
        }
        System.exit(isFine ? 0 : 1);
    }

    private static boolean isSparing(int[] sky, long sum) {
        long none = allocated();
        none = allocated() - none;
        long before = allocated();
        PassScreener screener = new PassScreener();
        long made = allocated() - before - none;
        before = allocated();
        long again = drive(screener, sky);
        long used = allocated() - before - none;
        System.out.println("a new object takes " + made + " bytes, all calls " + used);
        if (sum != again) {
            System.out.println("answers differ: " + sum + ", " + again);
        }
        return made <= NEW_OBJECT_BYTES_MOST && used <= 0 && sum == again;
    }

    private static void feed(PassScreener s, int[] words) {
        for (int k = 0; k + 4 < words.length; k += 5) {
            s.feed(words[k], words[k + 1], words[k + 2], words[k + 3], words[k + 4]);
        }
    }

    private static long drive(PassScreener s, int[] sky) {
        feed(s, sky);
        long sum = s.sky() + s.fault(0) + s.named();
        for (int round = 0; round < 3; round++) {
            for (int what = 0; what < 15; what++) {
                sum = 31 * sum + s.has(what) + s.status(what) + s.octet(what) + s.kept(what, 0) + s.remains(what, 1);
                sum = 31 * sum + s.list(what, 2) + s.crowd(60 + what);
            }
            for (int b = 0; b < 10; b++) {
                sum = 31 * sum + s.letter(b, 0) + s.body(b, 0) + s.spot(b, 77, 1) + s.threats(b) + s.group(b);
                sum = 31 * sum + s.doom(b) + s.odds(b, 400) + s.saves(b, 1) + s.tries(b, 2, 3) + s.clears(b, 2);
                sum = 31 * sum + s.twice(b, 4) + s.box(b, 10, 110, 3);
                for (int c = 0; c < 10; c++) {
                    sum = 31 * sum + s.far(b, c, 5) + s.lean(b, c, 5) + s.sieve(b, c) + s.window(b, c, -1);
                    sum = 31 * sum + s.times(b, c, -1) + s.closest(b, c, 0) + s.apart(b, c, 3, 9) + s.passes(b, c);
                    sum = 31 * sum + s.pass(b, c, 0, 1) + s.chances(b, c, 5, 0) + s.margin(b, c) + s.room(b, c);
                }
            }
            sum = 31 * sum + s.next(0) + s.watch(5, 2) + s.crowded(0) + s.stays(2400) + s.clearing(3);
            s.feed(0, 0, 0, 0, 0);
            s.end(4);
            sum = 31 * sum + s.see(round) + s.fits(-1) + s.tells(0) + s.burn(round, 1, 2) + s.ticks(9);
            sum = 31 * sum + (s.up(round, false) ? 1 : 0) + (s.gap(12 + round) ? 1 : 0) + s.chance(20) + s.image();
            sum = 31 * sum + (s.undo() ? 1 : 0) + (s.seed(7) ? 1 : 0) + (s.on() ? 1 : 0);
        }
        return sum;
    }
}
