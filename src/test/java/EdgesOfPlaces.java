/** Edges of promises 10 to 20: where bodies are, sieves, boxes, passes. */
final class EdgesOfPlaces extends Edge {
    /** By steps at HEIGHTS 10, 14, 18, 18, 14, along and across (10,0) (3,11) (-10,8) (-11,-7) (2,-12). */
    private static final int[] FIVE = {10, 20, 5, 0, 0, 0, 0, 9};
    private static final int[] FIVE_ALONG = {10, 3, -10, -11, 2};
    private static final int[] FIVE_ACROSS = {0, 11, 8, -7, -12};
    private static final int[] FIVE_HEIGHTS = {10, 14, 18, 18, 14};

    /** In a cycle of 12: 34 40 64 50 40 32 18 8 0 2 8 32 apart. */
    private static final String TWO = "gap 3 size 0;" + Kit.body("a", 4, 4, 4, 0, 0, 0, 0, 9)
            + Kit.body("i", 4, 4, 3, 1, 0, 0, 0, 0);
    private static final int[] TWO_FAR = {34, 40, 64, 50, 40, 32, 18, 8, 0, 2, 8, 32};

    private static final int[] NO_BODY = {-1, 2, 9, 10, 11, MAX, MIN};
    private static final int[] NO_TICK = {-1, 10000, 10001, MAX, MIN};

    private EdgesOfPlaces() {
    }

    public static void main(String[] args) {
        EdgesOfPlaces edges = new EdgesOfPlaces();
        edges.rings();
        edges.planes();
        edges.spots();
        edges.fars();
        edges.leans();
        edges.shells();
        edges.windows();
        edges.sieves();
        edges.times();
        edges.cycles();
        edges.closest();
        edges.boxes();
        edges.apart();
        edges.passes();
        edges.close(args);
    }

    private static int[] with(int[] numbers, int what, int value) {
        int[] copy = numbers.clone();
        copy[what] = value;
        return copy;
    }

    private void place(PassScreener s, int body, int tick, int... due) {
        for (int what = 0; what < due.length; what++) {
            due("spot(" + body + ", " + tick + ", " + what + ")", s.spot(body, tick, what), due[what]);
        }
    }

    private void rings() {
        by(0, "At a TICK t (0 and on) it is at s = (PHASE + t) mod TURN of its ring");
        PassScreener s = Kit.skyOf("gap 1 size 0;" + Kit.body("a", FIVE) + Kit.body("b", with(FIVE, 3, 4))
                + Kit.body("c", with(FIVE, 4, 4)));
        for (int tick = 0; tick < 12; tick++) {
            place(s, 0, tick, FIVE_ALONG[tick % 5], FIVE_ACROSS[tick % 5], 0, FIVE_HEIGHTS[tick % 5]);
            place(s, 1, tick, FIVE_ALONG[(tick + 4) % 5], FIVE_ACROSS[(tick + 4) % 5], 0, FIVE_HEIGHTS[(tick + 4) % 5]);
        }
        place(s, 0, 9999, 2, -12, 0, 14);
        place(s, 1, 9999, -11, -7, 0, 18);
        by(0, "m being the lesser of r and TURN less r, r = (s + LIFT) mod TURN");
        int[] lifted = {14, 10, 14, 18, 18};
        for (int tick = 0; tick < 5; tick++) {
            due("spot(2, " + tick + ", 3)", s.spot(2, tick, 3), lifted[tick]);
        }
        // A turn of 2: at LOW and at HIGH; of 3: 1 + 2 * 199 / 3 is 133, twice.
        PassScreener t = Kit.skyOf("gap 1 size 0;" + Kit.body("a", 1, 200, 2, 0, 0, 0, 0, 9)
                + Kit.body("b", 1, 200, 3, 0, 0, 0, 0, 9) + Kit.body("c", 1, 200, 48, 0, 0, 0, 0, 9));
        due("spot(0, 0, 3)", t.spot(0, 0, 3), 1);
        due("spot(0, 1, 3)", t.spot(0, 1, 3), 200);
        due("spot(1, 1, 3)", t.spot(1, 1, 3), 133);
        due("spot(1, 2, 3)", t.spot(1, 2, 3), 133);
        due("spot(2, 23, 3)", t.spot(2, 23, 3), 191);
        due("spot(2, 24, 3)", t.spot(2, 24, 3), 200);
        due("spot(2, 25, 3)", t.spot(2, 25, 3), 191);
        due("spot(2, 47, 3)", t.spot(2, 47, 3), 9);
        by(0, "up to w = H: p = H - w, q = w; else up to 2 H: p = H - w, q = 2 H - w; else up to 3 H");
        // A step is one of way: just at, and one beyond, each corner.
        PassScreener u = Kit.skyOf("gap 1 size 0;" + Kit.body("a", 10, 10, 40, 0, 0, 0, 0, 9));
        int[][] corners = {{0, 10, 0}, {1, 9, 1}, {9, 1, 9}, {10, 0, 10}, {11, -1, 9}, {19, -9, 1}, {20, -10, 0},
            {21, -9, -1}, {29, -1, -9}, {30, 0, -10}, {31, 1, -9}, {39, 9, -1}, {40, 10, 0}};
        for (int[] corner : corners) {
            place(u, 0, corner[0], corner[1], corner[2], 0, 10);
        }
        by(0, "All quotients are cut (towards 0).");
        // The least ring: 4 s / 48 is 0 for a quarter.
        PassScreener v = Kit.skyOf("gap 1 size 0;" + Kit.body("a", 1, 1, 48, 0, 0, 8, 0, 9));
        place(v, 0, 11, 1, 0, 0, 1);
        place(v, 0, 12, 0, 0, 0, 1);
        place(v, 0, 24, -1, 0, 0, 1);
        place(v, 0, 36, 0, 0, 0, 1);
        place(v, 0, 47, 0, 0, 0, 1);
    }

    private void planes() {
        by(0, "With y = q (16 - TILT) / 16 its place is, by NODE 0: (p, y), 1: (-y, p), 2: (-p, -y), 3: (y, -p)");
        // By a TILT of 3 across makes 0 8 6 -5 -9 and, upwards, 0 2 1 -1 -2.
        int[] flat = {0, 8, 6, -5, -9};
        int[] up = {0, 2, 1, -1, -2};
        StringBuilder text = new StringBuilder("gap 1 size 0;");
        for (int node = 0; node < 4; node++) {
            text.append(Kit.body(String.valueOf((char) ('a' + node)), with(with(FIVE, 5, 3), 6, node)));
        }
        PassScreener s = Kit.skyOf(text.toString());
        for (int tick = 0; tick < 5; tick++) {
            int p = FIVE_ALONG[tick];
            int y = flat[tick];
            place(s, 0, tick, p, y, up[tick]);
            place(s, 1, tick, -y, p, up[tick]);
            place(s, 2, tick, -p, -y, up[tick]);
            place(s, 3, tick, y, -p, up[tick]);
        }
        by(0, "and z = q TILT / 16");
        PassScreener t = Kit.skyOf("gap 1 size 0;" + Kit.body("a", with(FIVE, 5, 0))
                + Kit.body("b", with(FIVE, 5, 16)) + Kit.body("c", with(FIVE, 5, 15)));
        for (int tick = 0; tick < 5; tick++) {
            place(t, 0, tick, FIVE_ALONG[tick], FIVE_ACROSS[tick], 0);
            place(t, 1, tick, FIVE_ALONG[tick], 0, FIVE_ACROSS[tick]);
        }
        // 11, 8, -7, -12 times 15 / 16.
        place(t, 2, 1, 3, 0, 10);
        place(t, 2, 2, -10, 0, 7);
        place(t, 2, 3, -11, 0, -6);
        place(t, 2, 4, 2, 0, -11);
    }

    private void spots() {
        PassScreener s = Kit.skyOf(TWO);
        by(10, "Of a BODY, UP or not, at a TICK (0 .. 9999)");
        s.up(0, false);
        place(s, 0, 0, 4, 0, 0, 4);
        place(s, 0, 9999, 0, -4, 0, 4);
        by(10, "NOTHING when there is none such, or for others.");
        for (int tick : NO_TICK) {
            due("spot(0, " + tick + ", 0)", s.spot(0, tick, 0), NOTHING);
        }
        for (int body : NO_BODY) {
            due("spot(" + body + ", 0, 0)", s.spot(body, 0, 0), NOTHING);
        }
        for (int what : new int[] {-1, 4, 5, MAX, MIN}) {
            due("spot(0, 0, " + what + ")", s.spot(0, 0, what), NOTHING);
        }
    }

    private void fars() {
        PassScreener s = Kit.skyOf(TWO);
        by(11, "How FAR two BODIES are apart at a TICK (0 .. 9999)");
        due("far(0, 1, 0)", s.far(0, 1, 0), 34);
        due("far(0, 1, 11)", s.far(0, 1, 11), 32);
        due("far(0, 1, 12): round", s.far(0, 1, 12), 34);
        due("far(0, 1, 9999)", s.far(0, 1, 9999), TWO_FAR[9999 % 12]);
        due("far(1, 0, 9999)", s.far(1, 0, 9999), TWO_FAR[9999 % 12]);
        PassScreener t = Kit.skyOf("gap 0 size 0;" + shuttle("a", 200, 0, 0) + shuttle("b", 200, 1, 0)
                + shuttle("c", 200, 0, 0));
        due("far(0, 1, 0): as far as can be", t.far(0, 1, 0), 160000);
        due("far(0, 2, 0): at one place", t.far(0, 2, 0), 0);
        // Upright rings, by steps (H,0,0) (0,0,H) (-H,0,0) (0,0,-H): apart in z alone, above and below 0.
        PassScreener u = Kit.skyOf("gap 0 size 0;" + Kit.body("a", 7, 7, 4, 1, 0, 16, 0, 9)
                + Kit.body("b", 7, 7, 4, 3, 0, 16, 0, 9) + Kit.body("c", 9, 9, 4, 1, 0, 16, 2, 9));
        due("far(0, 1, 0): 7 above and 7 below", u.far(0, 1, 0), 196);
        due("far(0, 2, 0): 7 and 9 above", u.far(0, 2, 0), 4);
        due("far(1, 2, 2): 7 above and 9 below", u.far(1, 2, 2), 256);
        by(11, "NONE when they are one, or there are none such.");
        due("far(0, 0, 0)", s.far(0, 0, 0), NONE);
        due("far(1, 1, 9999)", s.far(1, 1, 9999), NONE);
        for (int body : NO_BODY) {
            due("far(0, " + body + ", 0)", s.far(0, body, 0), NONE);
            due("far(" + body + ", 0, 0)", s.far(body, 0, 0), NONE);
            due("far(" + body + ", " + body + ", 0)", s.far(body, body, 0), NONE);
        }
        for (int tick : NO_TICK) {
            due("far(0, 1, " + tick + ")", s.far(0, 1, tick), NONE);
        }
    }

    private void leans() {
        // A ring of 200 against planes that stand upright: -16 Y, at most 3200.
        PassScreener s = Kit.skyOf("gap 0 size 0;" + Kit.body("a", 200, 200, 4, 0, 0, 0, 0, 9)
                + Kit.body("b", 200, 200, 4, 0, 0, 16, 0, 9));
        by(12, "LEAN of a BODY at a TICK (0 .. 9999) from the plane of another one");
        due("lean(0, 1, 0)", s.lean(0, 1, 0), 0);
        due("lean(0, 1, 1)", s.lean(0, 1, 1), -3200);
        due("lean(0, 1, 3)", s.lean(0, 1, 3), 3200);
        due("lean(0, 1, 9999)", s.lean(0, 1, 9999), 3200);
        due("lean(1, 0, 9999)", s.lean(1, 0, 9999), -3200);
        s.up(0, false);
        due("lean(0, 1, 1) of one that is down", s.lean(0, 1, 1), -3200);
        by(12, "NOTHING when they are one, or there are none such.");
        due("lean(0, 0, 0)", s.lean(0, 0, 0), NOTHING);
        for (int body : NO_BODY) {
            due("lean(0, " + body + ", 0)", s.lean(0, body, 0), NOTHING);
            due("lean(" + body + ", 0, 0)", s.lean(body, 0, 0), NOTHING);
        }
        for (int tick : NO_TICK) {
            due("lean(0, 1, " + tick + ")", s.lean(0, 1, tick), NOTHING);
        }
    }

    private int sieveOfShells(int gap, int high, int low) {
        PassScreener s = Kit.skyOf("gap " + gap + " size 0;" + shuttle("a", high, 0, 9) + shuttle("b", low, 0, 9));
        int sieve = s.sieve(0, 1);
        due("sieve(1, 0): the same the other way round", s.sieve(1, 0), sieve);
        return sieve;
    }

    private void shells() {
        by(0, "if HIGH of one is below LOW of the other, and (LOW of that less HIGH of this, less 1) squared is more "
                + "than 3 GAP squared");
        due("0 between, by 0", sieveOfShells(0, 50, 50), 0);
        due("1 above, by 0", sieveOfShells(0, 50, 51), 0);
        due("2 above, by 0", sieveOfShells(0, 50, 52), 1);
        // By 1: 3; 1 squared is not more, 2 squared is.
        due("2 above, by 1", sieveOfShells(1, 50, 52), 0);
        due("3 above, by 1", sieveOfShells(1, 50, 53), 1);
        // By 99: 29403; 171 squared is 29241, 172 squared 29584.
        due("172 above, by 99", sieveOfShells(99, 1, 173), 0);
        due("173 above, by 99", sieveOfShells(99, 1, 174), 1);
        due("199 above, by 99", sieveOfShells(99, 1, 200), 1);
        // Shells that share a height alone are not sieved, however far their middles are.
        PassScreener s = Kit.skyOf("gap 0 size 0;" + Kit.body("a", 1, 100, 2, 0, 0, 0, 0, 9)
                + Kit.body("b", 100, 200, 2, 0, 0, 0, 0, 9) + Kit.body("c", 102, 200, 2, 0, 0, 0, 0, 9)
                + Kit.body("d", 50, 60, 2, 0, 0, 0, 0, 9));
        due("up to 100 and from 100 on", s.sieve(0, 1), 0);
        due("up to 100 and from 102 on", s.sieve(0, 2), 1);
        due("one within the other", s.sieve(0, 3), 0);
    }

    private void windows() {
        by(0, "WINDOW of a BODY by another one: TICKS of its TURN (0 and on) at which the LEAN is between -16 GAP - 16 "
                + "and as much above 0");
        // By a TILT of 1 and NODE 1 the LEAN of (x, 0, 0) is x: 16 and -17, 17 and -16, 16 and -16, 17 and -17.
        PassScreener s = Kit.skyOf("gap 0 size 0;" + Kit.body("n", 16, 16, 4, 0, 0, 1, 1, 9)
                + Kit.body("a", 16, 17, 2, 0, 0, 0, 0, 9) + Kit.body("b", 16, 17, 2, 0, 1, 0, 0, 9)
                + shuttle("c", 16, 0, 9) + shuttle("d", 17, 0, 9));
        due("lean(1, 0, 0)", s.lean(1, 0, 0), 16);
        due("lean(1, 0, 1)", s.lean(1, 0, 1), -17);
        int[] many = {1, 1, 2, 0};
        for (int k = 0; k < 4; k++) {
            due("window(" + (k + 1) + ", 0, -1)", s.window(k + 1, 0, NONE), many[k]);
        }
        due("window(1, 0, 0)", s.window(1, 0, 0), 0);
        due("window(2, 0, 0)", s.window(2, 0, 0), 1);
        s.gap(1);
        due("window(4, 0, -1): 17 is within 32", s.window(4, 0, NONE), 2);
        // By a TILT of 16 the LEAN of (0, y, 0) is -16 y: a HEIGHT of GAP and 1 is within, one of GAP and 2 is not.
        for (int gap : new int[] {0, 1, 2, 50, 98, 99}) {
            PassScreener t = Kit.skyOf("gap " + gap + " size 0;" + Kit.body("n", 9, 9, 4, 0, 0, 16, 0, 9)
                    + Kit.body("a", gap + 1, gap + 1, 4, 0, 0, 0, 0, 9)
                    + Kit.body("b", gap + 2, gap + 2, 4, 0, 0, 0, 0, 9));
            due("lean(1, 0, 3)", t.lean(1, 0, 3), 16 * gap + 16);
            due("window(1, 0, -1) by " + gap, t.window(1, 0, NONE), 4);
            due("window(2, 0, -1) by " + gap, t.window(2, 0, NONE), 2);
            due("window(2, 0, 1) by " + gap, t.window(2, 0, 1), 2);
        }
        // A PHASE turns the WINDOW: TICKS count, not steps.
        s.gap(0);
        s.burn(1, 0, 1);
        due("window(1, 0, 0) behind a burn", s.window(1, 0, 0), 1);
        by(14, "its k-th TICK, rising; k NONE: how many.");
        due("window(3, 0, -1)", s.window(3, 0, NONE), 2);
        due("window(3, 0, 0)", s.window(3, 0, 0), 0);
        due("window(3, 0, 1)", s.window(3, 0, 1), 1);
        s.up(3, false);
        due("window(3, 0, 1) of one that is down", s.window(3, 0, 1), 1);
        by(14, "NONE when there is none such, they are one, or there are none such.");
        for (int k : new int[] {2, -2, MAX, MIN}) {
            due("window(3, 0, " + k + ")", s.window(3, 0, k), NONE);
        }
        due("window(4, 0, 0): it is empty", s.window(4, 0, 0), NONE);
        due("window(3, 3, -1)", s.window(3, 3, NONE), NONE);
        for (int body : new int[] {-1, 5, 10, MAX, MIN}) {
            due("window(" + body + ", 0, -1)", s.window(body, 0, NONE), NONE);
            due("window(0, " + body + ", -1)", s.window(0, body, NONE), NONE);
        }
    }

    private void sieves() {
        by(0, "2 PLANES: if the WINDOW of one of both by the other is empty.");
        // (17,0) leans 17 from the plane of n; n is within that of the shuttle always: its z is 0 or 1 of 16.
        PassScreener s = Kit.skyOf("gap 0 size 0;" + shuttle("d", 17, 0, 9) + Kit.body("n", 16, 16, 4, 0, 0, 1, 1, 9));
        due("window(0, 1, -1)", s.window(0, 1, NONE), 0);
        due("window(1, 0, -1)", s.window(1, 0, NONE), 4);
        due("sieve(0, 1)", s.sieve(0, 1), 2);
        due("sieve(1, 0)", s.sieve(1, 0), 2);
        s.gap(1);
        due("sieve(0, 1) by 1", s.sieve(0, 1), 0);
        // Told the other way round, so that it is the WINDOW of the other one that is empty.
        PassScreener r = Kit.skyOf("gap 0 size 0;" + Kit.body("n", 16, 16, 4, 0, 0, 1, 1, 9) + shuttle("d", 17, 0, 9));
        due("sieve(0, 1) told the other way round", r.sieve(0, 1), 2);
        // One TICK in a WINDOW is enough, whichever of both has it.
        String narrow = Kit.body("a", 16, 17, 2, 0, 0, 0, 0, 9);
        String wide = Kit.body("n", 16, 16, 2, 0, 0, 1, 1, 9);
        for (String text : new String[] {narrow + wide, wide + narrow}) {
            PassScreener one = Kit.skyOf("gap 0 size 0;" + text);
            due("times(0, 1, -1) of <" + text + ">", one.times(0, 1, NONE), 1);
            due("sieve(0, 1) of <" + text + ">", one.sieve(0, 1), 0);
        }
        by(0, "3 TIMES: if at no TICK t of the CYCLE t mod TURN lies in the WINDOW for each of both.");
        // c stands upright: both are in the plane of the other when they are on the line of x, b a step later than c.
        PassScreener t = Kit.skyOf("gap 2 size 0;" + Kit.body("b", 4, 4, 4, 1, 0, 0, 0, 9)
                + Kit.body("c", 4, 4, 4, 0, 0, 16, 0, 9) + Kit.body("e", 4, 4, 3, 0, 0, 0, 0, 9));
        due("sieve(0, 1)", t.sieve(0, 1), 3);
        due("window(0, 1, -1)", t.window(0, 1, NONE), 2);
        due("window(1, 0, -1)", t.window(1, 0, NONE), 2);
        t.burn(0, 0, 1);
        due("sieve(0, 1) behind a step more", t.sieve(0, 1), 0);
        t.undo();
        t.gap(3);
        due("sieve(0, 1) by 3", t.sieve(0, 1), 0);
        by(0, "The first of these, or 0, if none sieves them.");
        // Far out and off the plane: by SHELLS, not by PLANES.
        PassScreener u = Kit.skyOf("gap 0 size 0;" + shuttle("d", 19, 0, 9) + Kit.body("n", 16, 16, 4, 0, 0, 1, 1, 9));
        due("window(0, 1, -1)", u.window(0, 1, NONE), 0);
        due("sieve(0, 1)", u.sieve(0, 1), 1);
        by(13, "By which SIEVE two BODIES, UP or not, are sieved (0: none)");
        u.up(0, false);
        u.up(1, false);
        due("sieve(0, 1) of those that are down", u.sieve(0, 1), 1);
        by(13, "NONE when they are one, or there are none such.");
        due("sieve(0, 0)", u.sieve(0, 0), NONE);
        for (int body : NO_BODY) {
            due("sieve(0, " + body + ")", u.sieve(0, body), NONE);
            due("sieve(" + body + ", 1)", u.sieve(body, 1), NONE);
        }
    }

    private void times() {
        // Both are within by 2 at even ticks (4) and, of a turn of 3, at (4,0) alone, if that is upright.
        PassScreener t = Kit.skyOf("gap 0 size 0;" + Kit.body("b", 4, 4, 4, 0, 0, 0, 0, 9)
                + Kit.body("e", 4, 4, 3, 0, 0, 16, 0, 9));
        by(15, "TICKS of the CYCLE of two BODIES that lie in both WINDOWS: the k-th, rising; k NONE: how many.");
        due("window(0, 1, -1)", t.window(0, 1, NONE), 2);
        due("window(1, 0, -1)", t.window(1, 0, NONE), 1);
        due("times(0, 1, -1)", t.times(0, 1, NONE), 2);
        due("times(0, 1, 0)", t.times(0, 1, 0), 0);
        due("times(0, 1, 1)", t.times(0, 1, 1), 6);
        due("times(1, 0, 1)", t.times(1, 0, 1), 6);
        PassScreener u = Kit.skyOf("gap 99 size 0;" + Kit.body("b", 1, 1, 47, 0, 0, 0, 0, 9)
                + Kit.body("e", 1, 1, 48, 0, 0, 0, 0, 9));
        due("times(0, 1, -1): all of the longest CYCLE", u.times(0, 1, NONE), 2256);
        due("times(0, 1, 2255)", u.times(0, 1, 2255), 2255);
        by(15, "NONE likewise.");
        due("times(0, 1, 2256)", u.times(0, 1, 2256), NONE);
        for (int k : new int[] {2, -2, MAX, MIN}) {
            due("times(0, 1, " + k + ")", t.times(0, 1, k), NONE);
        }
        due("times(1, 1, -1)", t.times(1, 1, NONE), NONE);
        for (int body : NO_BODY) {
            due("times(0, " + body + ", -1)", t.times(0, body, NONE), NONE);
            due("times(" + body + ", 1, -1)", t.times(body, 1, NONE), NONE);
        }
    }

    private void cycles() {
        by(0, "The CYCLE of two is the least number of TICKS into which both TURNS go.");
        int[][] cycles = {{2, 2, 2}, {2, 3, 6}, {2, 48, 48}, {48, 48, 48}, {47, 48, 2256}, {36, 48, 144}, {24, 36, 72},
            {46, 48, 1104}, {45, 46, 2070}, {7, 47, 329}};
        for (int[] row : cycles) {
            PassScreener s = Kit.skyOf("gap 0 size 0;" + Kit.body("a", 9, 9, row[0], 0, 0, 0, 0, 9)
                    + Kit.body("b", 9, 9, row[1], 0, 0, 0, 0, 9));
            due("closest(0, 1, 2) of " + row[0] + " and " + row[1], s.closest(0, 1, 2), row[2]);
            due("closest(1, 0, 2) of " + row[1] + " and " + row[0], s.closest(1, 0, 2), row[2]);
        }
    }

    private void closest() {
        by(0, "Two are CLOSEST, in their CYCLE, at the first TICK at which they are least FAR.");
        PassScreener s = Kit.skyOf(TWO);
        due("closest(0, 1, 0)", s.closest(0, 1, 0), 8);
        due("closest(0, 1, 1)", s.closest(0, 1, 1), 0);
        s.ticks(5);
        due("closest(0, 1, 0): NOW counts for nothing", s.closest(0, 1, 0), 8);
        // By TICKS 9 2 5 10 2 1 and on, none less: 1, by x alone, is less than 2.
        PassScreener v = Kit.skyOf("gap 5 size 1;" + Kit.body("a", 1, 2, 7, 2, 3, 8, 3, 9)
                + Kit.body("b", 3, 3, 3, 0, 1, 1, 0, 9));
        due("far(0, 1, 4)", v.far(0, 1, 4), 2);
        due("far(0, 1, 5)", v.far(0, 1, 5), 1);
        due("closest(0, 1, 0): 1 is less than 2", v.closest(0, 1, 0), 5);
        due("closest(0, 1, 1)", v.closest(0, 1, 1), 1);
        // Always alike: the first.
        PassScreener t = Kit.skyOf("gap 6 size 0;" + shuttle("a", 5, 0, 9) + shuttle("b", 11, 0, 9));
        due("closest(0, 1, 0): all are alike", t.closest(0, 1, 0), 0);
        // Both at (H,0,0) at the very last TICK of the longest CYCLE, and at no other one.
        PassScreener u = Kit.skyOf("gap 0 size 0;" + Kit.body("a", 50, 50, 48, 1, 0, 0, 0, 9)
                + Kit.body("b", 50, 50, 47, 1, 0, 16, 0, 9));
        due("closest(0, 1, 0): the last", u.closest(0, 1, 0), 2255);
        due("closest(0, 1, 1)", u.closest(0, 1, 1), 0);
        by(0, "They are NEAR, if that is no more than GAP squared, both being UP.");
        due("closest(0, 1, 3): 36 by 6", t.closest(0, 1, 3), 1);
        due("closest(1, 0, 3): 36 by 6", t.closest(1, 0, 3), 1);
        t.gap(5);
        due("closest(0, 1, 3): 36 by 5", t.closest(0, 1, 3), 0);
        due("closest(0, 1, 3): 0 by 0", u.closest(0, 1, 3), 1);
        u.up(1, false);
        due("closest(0, 1, 3): the other is down", u.closest(0, 1, 3), 0);
        u.up(0, false);
        due("closest(0, 1, 3): both are down", u.closest(0, 1, 3), 0);
        u.up(1, true);
        due("closest(0, 1, 3): the first is down", u.closest(0, 1, 3), 0);
        by(16, "Of two BODIES, UP or not: 0 the TICK at which they are CLOSEST");
        due("closest(0, 1, 0) of one that is down", u.closest(0, 1, 0), 2255);
        by(16, "NONE when they are one, there are none such, or for others.");
        for (int what : new int[] {-1, 4, MAX, MIN}) {
            due("closest(0, 1, " + what + ")", s.closest(0, 1, what), NONE);
        }
        for (int what = 0; what < 4; what++) {
            due("closest(1, 1, " + what + ")", s.closest(1, 1, what), NONE);
            for (int body : NO_BODY) {
                due("closest(0, " + body + ", " + what + ")", s.closest(0, body, what), NONE);
                due("closest(" + body + ", 1, " + what + ")", s.closest(body, 1, what), NONE);
            }
        }
    }

    private void box(PassScreener s, int from, int to, int... due) {
        for (int what = 0; what < 6; what++) {
            due("box(0, " + from + ", " + to + ", " + what + ")", s.box(0, from, to, what), due[what]);
        }
    }

    private void boxes() {
        PassScreener s = Kit.skyOf("gap 1 size 0;" + Kit.body("a", with(FIVE, 5, 3)));
        by(17, "BOX of a BODY from a TICK up to another one (0 .. 9999; not less, 200 more at most)");
        box(s, 0, 0, 10, 0, 0, 10, 0, 0);
        box(s, 3, 3, -11, -5, -1, -11, -5, -1);
        box(s, 0, 1, 3, 0, 0, 10, 8, 2);
        box(s, 4, 5, 2, -9, -2, 10, 0, 0);
        box(s, 1, 4, -11, -9, -2, 3, 8, 2);
        box(s, 0, 4, -11, -9, -2, 10, 8, 2);
        box(s, 0, 200, -11, -9, -2, 10, 8, 2);
        box(s, 9799, 9999, -11, -9, -2, 10, 8, 2);
        box(s, 9999, 9999, 2, -9, -2, 2, -9, -2);
        s.up(0, false);
        box(s, 0, 0, 10, 0, 0, 10, 0, 0);
        PassScreener t = Kit.skyOf("gap 1 size 0;" + Kit.body("a", 10, 10, 48, 0, 0, 0, 0, 9));
        due("box(0, 0, 23, 0): a step ahead of the corner", t.box(0, 0, 23, 0), -9);
        due("box(0, 0, 24, 0): the corner is in it", t.box(0, 0, 24, 0), -10);
        by(17, "NOTHING when these can't be, there is none such, or for others.");
        int[][] spans = {{1, 0}, {0, 201}, {9798, 9999}, {9999, 10000}, {10000, 10000}, {-1, 0}, {-1, -1}, {MIN, MAX},
            {0, MAX}, {MIN, MIN}, {MAX, MAX}, {MIN, 0}, {MAX, MIN}};
        for (int[] span : spans) {
            // From 9798 to 9999 is 201 more.
            due("box(0, " + span[0] + ", " + span[1] + ", 0)", s.box(0, span[0], span[1], 0), NOTHING);
        }
        for (int what : new int[] {-1, 6, MAX, MIN}) {
            due("box(0, 0, 0, " + what + ")", s.box(0, 0, 0, what), NOTHING);
        }
        for (int body : new int[] {-1, 1, 10, MAX, MIN}) {
            due("box(" + body + ", 0, 0, 0)", s.box(body, 0, 0, 0), NOTHING);
        }
    }

    private void apart() {
        PassScreener s = Kit.skyOf("gap 1 size 0;" + shuttle("a", 10, 0, 9) + shuttle("b", 11, 0, 9)
                + shuttle("c", 10, 0, 9) + Kit.body("d", 30, 30, 4, 1, 0, 8, 0, 9));
        by(0, "APART of two from one TICK up to another one: the sum of squares by which their BOXES lie apart in x, "
                + "y, z (0 where they meet).");
        due("apart(0, 2, 0, 0): one place", s.apart(0, 2, 0, 0), 0);
        due("apart(0, 1, 0, 0): side by side", s.apart(0, 1, 0, 0), 1);
        due("apart(1, 0, 1, 1): side by side", s.apart(1, 0, 1, 1), 1);
        due("apart(0, 1, 0, 1): one within the other", s.apart(0, 1, 0, 1), 0);
        // d: (0,15,15) (-30,0,0): from (10,0,0), then from -10 .. 10.
        due("apart(0, 3, 0, 0)", s.apart(0, 3, 0, 0), 100 + 225 + 225);
        due("apart(3, 0, 0, 0)", s.apart(3, 0, 0, 0), 100 + 225 + 225);
        due("apart(0, 3, 1, 1)", s.apart(0, 3, 1, 1), 400);
        due("apart(0, 3, 0, 1): they meet in y and z at an edge", s.apart(0, 3, 0, 1), 0);
        by(18, "(likewise)");
        due("apart(0, 1, 0, 200)", s.apart(0, 1, 0, 200), 0);
        due("apart(0, 1, 9799, 9999)", s.apart(0, 1, 9799, 9999), 0);
        due("apart(0, 1, 9999, 9999)", s.apart(0, 1, 9999, 9999), 1);
        s.up(0, false);
        due("apart(0, 1, 0, 0) of one that is down", s.apart(0, 1, 0, 0), 1);
        by(18, "NONE when these can't be, they are one, or there are none such.");
        int[][] spans = {{1, 0}, {0, 201}, {9798, 9999}, {9999, 10000}, {10000, 10000}, {-1, 0}, {-1, -1}, {MIN, MAX},
            {0, MAX}, {MIN, MIN}, {MAX, MAX}, {MIN, 0}, {MAX, MIN}};
        for (int[] span : spans) {
            due("apart(0, 1, " + span[0] + ", " + span[1] + ")", s.apart(0, 1, span[0], span[1]), NONE);
        }
        due("apart(0, 0, 0, 0)", s.apart(0, 0, 0, 0), NONE);
        for (int body : new int[] {-1, 4, 10, MAX, MIN}) {
            due("apart(" + body + ", 0, 0, 0)", s.apart(body, 0, 0, 0), NONE);
            due("apart(0, " + body + ", 0, 0)", s.apart(0, body, 0, 0), NONE);
        }
    }

    private void pass(PassScreener s, int k, int... due) {
        for (int what = 0; what < 4; what++) {
            due("pass(0, 1, " + k + ", " + what + ")", s.pass(0, 1, k, what), due[what]);
        }
    }

    private void passes() {
        PassScreener s = Kit.skyOf(TWO);
        by(0, "PASSES of two: TICKS of the CYCLE running, as many as can be, from 0 on (none goes round), at which they "
                + "are FAR no more than GAP squared.");
        s.gap(6);
        due("passes(0, 1) by 36: 0; 5 .. 11", s.passes(0, 1), 2);
        pass(s, 0, 0, 1, 0, 34);
        pass(s, 1, 5, 7, 8, 0);
        s.gap(7);
        due("passes(0, 1) by 49: 0, 1; 4 .. 11", s.passes(0, 1), 2);
        pass(s, 0, 0, 2, 0, 34);
        pass(s, 1, 4, 8, 8, 0);
        s.gap(8);
        due("passes(0, 1) by 64: all", s.passes(0, 1), 1);
        pass(s, 0, 0, 12, 8, 0);
        s.gap(0);
        due("passes(0, 1) by 0: 8", s.passes(0, 1), 1);
        pass(s, 0, 8, 1, 8, 0);
        PassScreener t = Kit.skyOf("gap 5 size 0;" + shuttle("a", 5, 0, 9) + shuttle("b", 11, 0, 9));
        due("passes(0, 1): 36 by 5", t.passes(0, 1), 0);
        PassScreener u = Kit.skyOf("gap 99 size 0;" + Kit.body("a", 1, 1, 48, 1, 0, 0, 0, 9)
                + Kit.body("b", 1, 1, 47, 1, 0, 0, 0, 9));
        due("passes(0, 1): the longest", u.passes(0, 1), 1);
        due("pass(0, 1, 0, 1)", u.pass(0, 1, 0, 1), 2256);
        by(19, "How many PASSES two BODIES, UP or not, have; NONE when they are one, or there are none such.");
        s.up(0, false);
        s.up(1, false);
        due("passes(0, 1) of those that are down", s.passes(0, 1), 1);
        due("passes(1, 1)", s.passes(1, 1), NONE);
        for (int body : NO_BODY) {
            due("passes(0, " + body + ")", s.passes(0, body), NONE);
            due("passes(" + body + ", 1)", s.passes(body, 1), NONE);
        }
        by(20, "2 the first TICK of it at which they are least FAR");
        t.gap(6);
        pass(t, 0, 0, 2, 0, 36);
        by(20, "NONE when there is none such, or for others.");
        for (int k : new int[] {1, -1, -2, MAX, MIN}) {
            pass(s, k, NONE, NONE, NONE, NONE);
        }
        for (int what : new int[] {-1, 4, MAX, MIN}) {
            due("pass(0, 1, 0, " + what + ")", s.pass(0, 1, 0, what), NONE);
        }
        t.gap(5);
        pass(t, 0, NONE, NONE, NONE, NONE);
        due("pass(1, 1, 0, 0)", s.pass(1, 1, 0, 0), NONE);
        for (int body : NO_BODY) {
            due("pass(0, " + body + ", 0, 0)", s.pass(0, body, 0, 0), NONE);
            due("pass(" + body + ", 1, 0, 0)", s.pass(body, 1, 0, 0), NONE);
        }
    }
}
