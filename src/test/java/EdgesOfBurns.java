/** Edges of promises 36 to 40 and 44: burns tried in thought, and burnt. */
final class EdgesOfBurns extends Edge {
    private static final int[] NO_BODY = {-1, 3, 9, 10, MAX, MIN};

    private EdgesOfBurns() {
    }

    public static void main(String[] args) {
        EdgesOfBurns edges = new EdgesOfBurns();
        edges.phaseAndLift();
        edges.heights();
        edges.tilts();
        edges.fuel();
        edges.noBurns();
        edges.tries();
        edges.clears();
        edges.clearsChoice();
        edges.clearsByEachKind();
        edges.clearing();
        edges.twice();
        edges.twiceChoice();
        edges.room();
        edges.close(args);
    }

    private static PassScreener one(int... numbers) {
        return Kit.skyOf("gap 0 size 0;" + Kit.body("a", numbers));
    }

    /** Whether a burn can be is the same when it is tried as when it is burnt; that it is undone is looked at, too. */
    private void burnt(PassScreener s, int kind, int d, int fuel, int... numbers) {
        String call = "burn(0, " + kind + ", " + d + ")";
        String before = stateOf(s);
        due("tries(0, " + kind + ", " + d + ")", s.tries(0, kind, d), fuel == NONE ? NONE : 0);
        int refused = s.status(3);
        due(call, s.burn(0, kind, d), fuel);
        due(call + ": status(3)", s.status(3), fuel == NONE ? refused + 1 : refused);
        for (int k = 0; k < numbers.length; k += 2) {
            due(call + ": body(0, " + numbers[k] + ")", s.body(0, numbers[k]), numbers[k + 1]);
        }
        if (fuel != NONE) {
            due(call + ": body(0, 7)", s.body(0, 7), fuel);
            s.undo();
        }
        dueSame(call, s, before);
    }

    private void phaseAndLift() {
        by(0, "KIND 0: PHASE is d more (mod TURN; d 1 .. TURN less 1), costs the lesser of d and TURN less d");
        PassScreener s = one(5, 9, 10, 7, 8, 4, 0, 99);
        burnt(s, 0, 1, 98, 3, 8, 4, 8);
        burnt(s, 0, 2, 97, 3, 9);
        burnt(s, 0, 3, 96, 3, 0);
        burnt(s, 0, 5, 94, 3, 2);
        burnt(s, 0, 6, 95, 3, 3);
        burnt(s, 0, 9, 98, 3, 6);
        burnt(s, 0, 0, NONE);
        burnt(s, 0, 10, NONE);
        burnt(s, 0, 11, NONE);
        by(0, "1: LIFT likewise");
        burnt(s, 1, 1, 98, 4, 9, 3, 7);
        burnt(s, 1, 2, 97, 4, 0);
        burnt(s, 1, 5, 94, 4, 3);
        burnt(s, 1, 9, 98, 4, 7);
        burnt(s, 1, 0, NONE);
        burnt(s, 1, 10, NONE);
        PassScreener t = one(5, 9, 2, 1, 1, 4, 0, 99);
        burnt(t, 0, 1, 98, 3, 0);
        burnt(t, 1, 1, 98, 4, 0);
        burnt(t, 0, 2, NONE);
        burnt(t, 1, 2, NONE);
        PassScreener u = one(5, 9, 48, 47, 0, 4, 0, 99);
        burnt(u, 0, 24, 75, 3, 23);
        burnt(u, 0, 47, 98, 3, 46);
        burnt(u, 0, 48, NONE);
        // The HEIGHT goes with LIFT: at 5 and 9 by turns.
        t.burn(0, 1, 1);
        due("spot(0, 0, 3): s is 1, LIFT 0", t.spot(0, 0, 3), 9);
    }

    private void heights() {
        by(0, "2: LOW, HIGH d more, 3: d less (d 1 and on; costs 2 d)");
        PassScreener s = one(5, 195, 10, 7, 8, 4, 0, 99);
        burnt(s, 2, 1, 97, 0, 6, 1, 196);
        burnt(s, 2, 5, 89, 0, 10, 1, 200);
        burnt(s, 2, 6, NONE);
        burnt(s, 3, 4, 91, 0, 1, 1, 191);
        burnt(s, 3, 5, NONE);
        burnt(s, 2, 0, NONE);
        burnt(s, 3, 0, NONE);
        burnt(s, 2, -1, NONE);
        burnt(s, 3, -1, NONE);
        PassScreener t = one(1, 200, 10, 7, 8, 4, 0, 99);
        burnt(t, 2, 1, NONE);
        burnt(t, 3, 1, NONE);
        PassScreener u = one(100, 100, 10, 7, 8, 4, 0, 99);
        burnt(u, 2, 49, 1, 0, 149, 1, 149);
        burnt(u, 2, 50, NONE);
        burnt(u, 3, 49, 1, 0, 51, 1, 51);
        burnt(u, 3, 50, NONE);
    }

    private void tilts() {
        by(0, "4: TILT d more, 5: d less (costs 3 d)");
        PassScreener s = one(5, 9, 10, 7, 8, 4, 0, 99);
        burnt(s, 4, 1, 96, 5, 5);
        burnt(s, 4, 12, 63, 5, 16);
        burnt(s, 4, 13, NONE);
        burnt(s, 5, 1, 96, 5, 3);
        burnt(s, 5, 4, 87, 5, 0);
        burnt(s, 5, 5, NONE);
        burnt(s, 4, 0, NONE);
        burnt(s, 5, 0, NONE);
        burnt(one(5, 9, 10, 7, 8, 0, 0, 99), 4, 16, 51, 5, 16);
        burnt(one(5, 9, 10, 7, 8, 0, 0, 99), 5, 1, NONE);
        burnt(one(5, 9, 10, 7, 8, 16, 0, 99), 5, 16, 51, 5, 0);
        burnt(one(5, 9, 10, 7, 8, 16, 0, 99), 4, 1, NONE);
    }

    private void fuel() {
        by(0, "One can be, if all stays within what a text may tell, and FUEL is no less than its cost, which is gone then.");
        int[][] costs = {{0, 3, 3}, {0, 8, 2}, {1, 4, 4}, {2, 3, 6}, {3, 3, 6}, {4, 2, 6}, {5, 2, 6}};
        for (int[] row : costs) {
            burnt(one(50, 90, 10, 7, 8, 4, 0, row[2]), row[0], row[1], 0);
            burnt(one(50, 90, 10, 7, 8, 4, 0, row[2] - 1), row[0], row[1], NONE);
        }
        PassScreener s = one(50, 90, 10, 7, 8, 4, 0, 0);
        for (int kind = 0; kind < 6; kind++) {
            burnt(s, kind, 1, NONE);
        }
    }

    private void noBurns() {
        by(44, "A BURN of a BODY that is UP: its FUEL then; NONE, refused (3), when it can't be, or there is none such.");
        PassScreener s = one(50, 90, 10, 7, 8, 4, 0, 99);
        for (int kind : new int[] {-1, 6, 7, MAX, MIN}) {
            burnt(s, kind, 1, NONE);
        }
        for (int kind = 0; kind < 6; kind++) {
            // By 2 d or 3 d some of these come round to what FUEL could pay for.
            for (int d : new int[] {-1, MIN, MAX, 1 << 30, 1 << 31, (1 << 30) + 1, 1431655766, 715827883, -715827882}) {
                burnt(s, kind, d, NONE);
            }
        }
        PassScreener t = Kit.skyOf("gap 0 size 0;" + tenBodies());
        int refused = 0;
        for (int body : new int[] {-1, 10, 11, MAX, MIN}) {
            due("burn(" + body + ", 0, 1)", t.burn(body, 0, 1), NONE);
            due("status(3)", t.status(3), ++refused);
        }
        t.up(9, false);
        due("burn(9, 0, 1): it is down", t.burn(9, 0, 1), NONE);
        due("status(3)", t.status(3), ++refused);
        due("has(6): refused ones can't be undone", t.has(6), 1);
        due("burn(0, 0, 1) without a sky", new PassScreener().burn(0, 0, 1), NONE);
    }

    /** a lies on b, and c is where another phase would lead a: only heights part it from both. */
    private static PassScreener stuck(int gap, int height, int fuel) {
        return Kit.skyOf("gap " + gap + " size 0;" + shuttle("a", height, 0, fuel) + shuttle("b", height, 0, 0)
                + shuttle("c", height, 1, 0));
    }

    private void tries() {
        by(36, "How many a BODY would be NEAR behind a BURN (KIND 0 .. 5, d)");
        PassScreener s = stuck(9, 100, 99);
        due("tries(0, 0, 1): off the one, to the other", s.tries(0, 0, 1), 1);
        due("tries(0, 2, 9): 81 is no more than 81", s.tries(0, 2, 9), 1);
        due("tries(0, 2, 10)", s.tries(0, 2, 10), 0);
        due("tries(0, 3, 10)", s.tries(0, 3, 10), 0);
        s.up(1, false);
        due("tries(0, 2, 9): the other is down", s.tries(0, 2, 9), 0);
        due("body(0, 0): nothing is done", s.body(0, 0), 100);
        due("has(6): nothing is done", s.has(6), 1);
        // By its NODE the other one is a step ahead on the same ring: one step more meets it, one less does not.
        PassScreener t = Kit.skyOf("gap 0 size 0;" + Kit.body("a", 10, 10, 4, 0, 0, 0, 0, 9)
                + Kit.body("b", 10, 10, 4, 0, 0, 0, 1, 9));
        int[] near = {1, 0, 0};
        int[] nearOfOther = {0, 0, 1};
        for (int d = 1; d <= 3; d++) {
            due("tries(0, 0, " + d + ")", t.tries(0, 0, d), near[d - 1]);
            due("tries(1, 0, " + d + ")", t.tries(1, 0, d), nearOfOther[d - 1]);
        }
        by(36, "NONE when it can't be, is down, or there is none such.");
        due("tries(1, 0, 1): it is down", s.tries(1, 0, 1), NONE);
        due("tries(2, 0, 1): no FUEL", s.tries(2, 0, 1), NONE);
        due("tries(0, 0, 2): d is TURN", s.tries(0, 0, 2), NONE);
        for (int body : NO_BODY) {
            due("tries(" + body + ", 0, 1)", s.tries(body, 0, 1), NONE);
        }
        due("status(3): nothing is refused", s.status(3), 0);
    }

    private void cleared(PassScreener s, int body, int... due) {
        for (int what = 0; what < 3; what++) {
            due("clears(" + body + ", " + what + ")", s.clears(body, what), due[what]);
        }
    }

    private void clears() {
        by(37, "NONE when there is none, it is down, or NEAR none now, there is none such, or for others.");
        cleared(stuck(9, 100, 20), 0, 2, 10, 20);
        cleared(stuck(9, 100, 19), 0, NONE, NONE, NONE);
        cleared(stuck(9, 191, 20), 0, 3, 10, 20);
        cleared(stuck(9, 190, 20), 0, 2, 10, 20);
        cleared(stuck(9, 10, 20), 0, 2, 10, 20);
        // No room above or below: 99 of FUEL go for 49 of height.
        cleared(stuck(49, 100, 99), 0, NONE, NONE, NONE);
        cleared(stuck(48, 100, 99), 0, 2, 49, 98);
        PassScreener s = stuck(9, 100, 20);
        for (int body : NO_BODY) {
            cleared(s, body, NONE, NONE, NONE);
        }
        for (int what : new int[] {-1, 3, MAX, MIN}) {
            due("clears(0, " + what + ")", s.clears(0, what), NONE);
        }
        s.up(0, false);
        cleared(s, 0, NONE, NONE, NONE);
        s.up(0, true);
        s.up(1, false);
        s.up(2, false);
        cleared(s, 0, NONE, NONE, NONE);
    }

    private void clearsChoice() {
        by(37, "The CHEAPEST BURN of a BODY that CLEARS it: 0 KIND, 1 d, 2 what it costs.");
        // On a ring of 8 steps taken at 0, 1 and 2: 7 costs 1 as 1 would.
        String text = Kit.body("a", 80, 80, 8, 0, 0, 0, 0, 9) + Kit.body("b", 80, 80, 8, 0, 0, 0, 0, 9)
                + Kit.body("c", 80, 80, 8, 1, 0, 0, 0, 9);
        cleared(Kit.skyOf("gap 0 size 0;" + text), 0, 0, 7, 1);
        // With 7 taken, too, LIFT counts for nothing where LOW is HIGH; 2 costs 2, as a height of 1 would.
        text += Kit.body("d", 80, 80, 8, 7, 0, 0, 0, 9);
        cleared(Kit.skyOf("gap 0 size 0;" + text), 0, 0, 2, 2);
        cleared(Kit.skyOf("gap 0 size 0;" + text.replaceFirst("fuel 9", "fuel 1")), 0, NONE, NONE, NONE);
        // All six that cost up to 2 are no use by 1: 3 costs 3.
        text += Kit.body("e", 80, 80, 8, 2, 0, 0, 0, 9) + Kit.body("f", 80, 80, 8, 6, 0, 0, 0, 9);
        cleared(Kit.skyOf("gap 1 size 0;" + text), 0, 0, 3, 3);
    }

    /** One sky for each KIND but the first, in which it is the cheapest. */
    private void clearsByEachKind() {
        by(37, "The CHEAPEST BURN of a BODY that CLEARS it");
        cleared(skyBy(0, 5, new int[] {6, 8, 5, 2, 1, 4, 2, 30}, new int[] {4, 7, 3, 2, 1, 7, 2, 0}), 0, 1, 1, 1);
        cleared(skyBy(1, 1, new int[] {1, 7, 6, 0, 0, 0, 0, 30}, new int[] {1, 2, 8, 0, 1, 3, 2, 0}), 0, 2, 2, 4);
        cleared(skyBy(3, 0, new int[] {5, 6, 8, 7, 6, 5, 0, 30}, new int[] {7, 7, 3, 2, 1, 0, 1, 0}), 0, 3, 3, 6);
        cleared(skyBy(2, 5, new int[] {4, 6, 5, 2, 3, 5, 1, 30}, new int[] {2, 8, 6, 5, 2, 0, 2, 0}), 0, 4, 3, 9);
        cleared(skyBy(6, 4, new int[] {4, 7, 6, 3, 5, 1, 1, 30}, new int[] {7, 7, 6, 5, 5, 6, 1, 0}), 0, 5, 1, 3);
    }

    private void clearedAll(PassScreener s, int... due) {
        for (int what = 0; what < 4; what++) {
            due("clearing(" + what + ")", s.clearing(what), due[what]);
        }
    }

    private void clearing() {
        by(38, "The CHEAPEST BURN of all BODIES that are UP that CLEARS THE LIST");
        String pair = shuttle("a", 100, 0, 9) + shuttle("b", 100, 0, 9);
        clearedAll(Kit.skyOf("gap 9 size 0;" + pair), 0, 0, 1, 1);
        // Without FUEL it is the other one; of those that are UP one alone is cleared by none.
        PassScreener s = Kit.skyOf("gap 9 size 0;" + pair.replaceFirst("fuel 9", "fuel 0"));
        clearedAll(s, 1, 0, 1, 1);
        by(38, "NONE when there is none, none are NEAR now, or for others.");
        for (int what : new int[] {-1, 4, MAX, MIN}) {
            due("clearing(" + what + ")", s.clearing(what), NONE);
        }
        s.up(0, false);
        clearedAll(s, NONE, NONE, NONE, NONE);
        s.up(0, true);
        s.burn(1, 0, 1);
        clearedAll(s, NONE, NONE, NONE, NONE);
        clearedAll(Kit.skyOf("gap 9 size 0;" + pair.replace("fuel 9", "fuel 0")), NONE, NONE, NONE, NONE);
        // Two pairs without a BODY in both.
        clearedAll(Kit.skyOf("gap 9 size 0;" + pair + shuttle("c", 150, 0, 9) + shuttle("d", 150, 0, 9)), NONE, NONE,
                NONE, NONE);
        // Three on one place: whoever goes, two are left.
        clearedAll(Kit.skyOf("gap 9 size 0;" + pair + shuttle("c", 100, 0, 99)), NONE, NONE, NONE, NONE);
        clearedAll(new PassScreener(), NONE, NONE, NONE, NONE);
        clearedAll(Kit.skyOf("gap 9 size 0;"), NONE, NONE, NONE, NONE);
    }

    private void two(PassScreener s, int body, int... due) {
        for (int what = 0; what < 5; what++) {
            due("twice(" + body + ", " + what + ")", s.twice(body, what), due[what]);
        }
    }

    private void twice() {
        int[] none = {NONE, NONE, NONE, NONE, NONE};
        by(39, "Of two BURNS of a BODY, one behind the other, each of d 1 .. 5, that CLEAR it");
        two(stuck(9, 100, 99), 0, 2, 5, 2, 5, 20);
        two(stuck(10, 100, 99), 0, none);
        two(stuck(9, 100, 20), 0, 2, 5, 2, 5, 20);
        two(stuck(9, 100, 19), 0, none);
        two(stuck(9, 190, 99), 0, 2, 5, 2, 5, 20);
        two(stuck(9, 191, 99), 0, 3, 5, 3, 5, 20);
        two(stuck(8, 100, 99), 0, 2, 4, 2, 5, 18);
        two(stuck(0, 100, 99), 0, 0, 1, 2, 1, 3);
        two(stuck(0, 200, 99), 0, 0, 1, 3, 1, 3);
        two(stuck(0, 1, 99), 0, 0, 1, 2, 1, 3);
        by(39, "NONE when there are none, it is down, or NEAR none now, there is none such, or for others.");
        PassScreener s = stuck(9, 100, 99);
        for (int body : NO_BODY) {
            two(s, body, none);
        }
        for (int what : new int[] {-1, 5, MAX, MIN}) {
            due("twice(0, " + what + ")", s.twice(0, what), NONE);
        }
        two(s, 1, none);
        s.up(0, false);
        two(s, 0, none);
        s.up(0, true);
        s.up(1, false);
        s.up(2, false);
        two(s, 0, none);
        due("body(0, 7): nothing is done", s.body(0, 7), 99);
    }

    private void twiceChoice() {
        by(39, "those that cost least together; of like ones by KIND and d of the first, then of the other");
        // Two burns, though one is enough: a PHASE there and back is no use on a ring of 2, a LIFT besides is.
        PassScreener s = Kit.skyOf("gap 0 size 0;" + shuttle("a", 100, 0, 99) + shuttle("b", 100, 0, 0));
        two(s, 0, 0, 1, 1, 1, 2);
        // On a ring of 3 a step and a step more are two.
        PassScreener t = Kit.skyOf("gap 0 size 0;" + Kit.body("a", 90, 90, 3, 0, 0, 0, 0, 99)
                + Kit.body("b", 90, 90, 3, 0, 0, 0, 0, 99));
        two(t, 0, 0, 1, 0, 1, 2);
        // On a ring of 12 the first nine phases are taken: one step back is free, but is no d of 1 .. 5.
        StringBuilder text = new StringBuilder("gap 0 size 0;" + Kit.body("z", 90, 90, 12, 0, 0, 0, 0, 99));
        for (int k = 0; k < 9; k++) {
            text.append(Kit.body(String.valueOf((char) ('a' + k)), 90, 90, 12, k, 0, 0, 0, 0));
        }
        // A step and a height of 1 cost 3, as they do the other way round; 4 and 5 steps would be 9.
        PassScreener u = Kit.skyOf(text.toString());
        two(u, 0, 0, 1, 2, 1, 3);
        due("clears(0, 1): back by 1, which is 11", u.clears(0, 1), 11);
        // Heights that fill all that a text may tell can't go up or down: TILTS are left, the dearest of which cost 30.
        int[] cost30 = {1, 200, 7, 2, 4, 2, 2, 99};
        two(skyBy(29, 0, cost30, new int[] {45, 102, 8, 2, 0, 0, 1, 0}), 0, 4, 5, 4, 5, 30);
        cost30[7] = 30;
        two(skyBy(29, 0, cost30, new int[] {45, 102, 8, 2, 0, 0, 1, 0}), 0, 4, 5, 4, 5, 30);
        cost30[7] = 29;
        two(skyBy(29, 0, cost30, new int[] {45, 102, 8, 2, 0, 0, 1, 0}), 0, NONE, NONE, NONE, NONE, NONE);
        two(skyBy(28, 0, new int[] {1, 200, 7, 1, 2, 0, 2, 99}, new int[] {52, 124, 8, 5, 6, 0, 1, 0}), 0, 4, 4, 4, 5, 27);
        two(skyBy(9, 0, new int[] {1, 200, 8, 1, 2, 5, 0, 99}, new int[] {1, 200, 8, 7, 1, 16, 0, 0},
                new int[] {13, 58, 5, 0, 2, 7, 1, 0}), 0, 1, 4, 5, 5, 19);
        // The lesser KIND is first, though its d is greater; of one KIND the lesser d.
        two(skyBy(7, 3, new int[] {6, 9, 5, 0, 2, 6, 0, 30}, new int[] {2, 2, 5, 0, 0, 4, 1, 0}), 0, 0, 4, 2, 3, 7);
        two(skyBy(2, 1, new int[] {1, 9, 4, 0, 3, 8, 3, 30}, new int[] {2, 6, 5, 2, 0, 4, 3, 0}), 0, 2, 1, 2, 2, 6);
    }

    private int roomOf(int one, int other) {
        PassScreener s = Kit.skyOf("gap 0 size 0;" + shuttle("a", one, 0, 0) + shuttle("b", other, 0, 0));
        int room = s.room(0, 1);
        due("room(1, 0): the same the other way round", s.room(1, 0), room);
        s.up(0, false);
        due("room(0, 1) of one that is down", s.room(0, 1), room);
        if (room != NONE && room < 99) {
            s.up(0, true);
            s.gap(room + 1);
            due("closest(0, 1, 3) by one more", s.closest(0, 1, 3), 1);
        }
        return room;
    }

    private void room() {
        by(40, "The greatest GAP (0 .. 99) by which two BODIES, UP or not, would not be NEAR, were they UP");
        due("1 apart", roomOf(50, 51), 0);
        due("2 apart", roomOf(50, 52), 1);
        due("99 apart", roomOf(50, 149), 98);
        due("100 apart", roomOf(50, 150), 99);
        due("101 apart", roomOf(50, 151), 99);
        due("199 apart", roomOf(1, 200), 99);
        // Not a square: 2 is more than 1 squared, 50 more than 7 squared.
        PassScreener s = Kit.skyOf("gap 0 size 0;" + Kit.body("a", 1, 1, 4, 0, 0, 0, 0, 0)
                + Kit.body("b", 1, 1, 4, 1, 0, 0, 0, 0) + Kit.body("c", 5, 5, 4, 0, 0, 0, 0, 0)
                + Kit.body("d", 5, 5, 4, 1, 0, 0, 0, 0));
        due("room(0, 1)", s.room(0, 1), 1);
        due("room(2, 3)", s.room(2, 3), 7);
        by(40, "NONE when there is none such, they are one, or there are none such.");
        due("0 apart", roomOf(50, 50), NONE);
        due("room(0, 0)", s.room(0, 0), NONE);
        for (int body : new int[] {-1, 4, 10, MAX, MIN}) {
            due("room(0, " + body + ")", s.room(0, body), NONE);
            due("room(" + body + ", 0)", s.room(body, 0), NONE);
        }
    }
}
