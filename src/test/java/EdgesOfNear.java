/** Edges of promises 21 to 30: the list, who passes next, groups, chances, crowds. */
final class EdgesOfNear extends Edge {
    /** They meet at (50,0,0) at the last of 2256 TICKS, and at no other one: the second ring stands upright. */
    private static final String LATE = "gap 0 size 0;" + Kit.body("a", 50, 50, 48, 1, 0, 0, 0, 9)
            + Kit.body("b", 50, 50, 47, 1, 0, 16, 0, 9);

    private static final int[] NO_BODY = {-1, 4, 9, 10, MAX, MIN};
    private static final int[] NO_UNSURENESS = {-1, 6, MAX, MIN};

    private EdgesOfNear() {
    }

    public static void main(String[] args) {
        EdgesOfNear edges = new EdgesOfNear();
        edges.list();
        edges.next();
        edges.nextFarAhead();
        edges.threats();
        edges.groups();
        edges.chances();
        edges.margins();
        edges.watches();
        edges.remains();
        edges.crowds();
        edges.crowded();
        edges.close(args);
    }

    /** Four in a row, 5 apart each: only neighbours are within 5. */
    private static PassScreener row(int gap) {
        return Kit.skyOf("gap " + gap + " size 0;" + shuttle("a", 10, 0, 9) + shuttle("b", 15, 0, 9)
                + shuttle("c", 20, 0, 9) + shuttle("d", 25, 0, 9));
    }

    private void listed(PassScreener s, int k, int... due) {
        for (int what = 0; what < 4; what++) {
            due("list(" + k + ", " + what + ")", s.list(k, what), due[what]);
        }
    }

    private void list() {
        by(0, "by how FAR they are when they are CLOSEST, of like ones by the TICK, then the first, the other.");
        PassScreener s = row(10);
        listed(s, 0, 0, 1, 0, 25);
        listed(s, 1, 1, 2, 0, 25);
        listed(s, 2, 2, 3, 0, 25);
        listed(s, 3, 0, 2, 0, 100);
        listed(s, 4, 1, 3, 0, 100);
        // a and c lie on each other from tick 0 on, b, upright, with them at tick 1: the TICK is ahead of the numbers.
        PassScreener t = Kit.skyOf("gap 0 size 0;" + Kit.body("a", 10, 10, 4, 3, 0, 0, 0, 9)
                + Kit.body("b", 10, 10, 4, 3, 0, 16, 0, 9) + Kit.body("c", 10, 10, 4, 3, 0, 0, 0, 9));
        listed(t, 0, 0, 2, 0, 0);
        listed(t, 1, 0, 1, 1, 0);
        listed(t, 2, 1, 2, 1, 0);
        by(0, "THE LIST are all pairs that are NEAR (the lesser number first)");
        for (int k = 0; k < s.has(4); k++) {
            due("list(" + k + ", 0) is less", s.list(k, 0) < s.list(k, 1), true);
        }
        by(21, "NONE when there is none such, or for others.");
        listed(s, 5, NONE, NONE, NONE, NONE);
        for (int k : new int[] {-1, 45, MAX, MIN}) {
            listed(s, k, NONE, NONE, NONE, NONE);
        }
        for (int what : new int[] {-1, 4, MAX, MIN}) {
            due("list(0, " + what + ")", s.list(0, what), NONE);
        }
        listed(row(4), 0, NONE, NONE, NONE, NONE);
        PassScreener full = Kit.skyOf("gap 99 size 0;" + tenBodies());
        full.gap(98);
        due("list(38, 0): the last of 39", full.list(38, 3), 90 * 90);
        due("list(39, 0)", full.list(39, 0), NONE);
        for (int body = 0; body < 9; body++) {
            full.up(body, false);
        }
        due("list(0, 0): one alone is UP", full.list(0, 0), NONE);
    }

    private void next() {
        by(0, "NEXT is, from NOW on (and at it), nobody CRASHING, the first TICK at which some two that are UP are FAR "
                + "no more than GAP squared");
        PassScreener s = Kit.skyOf(LATE);
        due("next(0)", s.next(0), 2255);
        due("next(1)", s.next(1), 0);
        due("next(2)", s.next(2), 1);
        due("next(3)", s.next(3), 0);
        s.ticks(999);
        s.ticks(999);
        s.ticks(257);
        due("next(0) at it", s.next(0), 2255);
        s.ticks(1);
        due("next(0): they are down", s.next(0), NONE);
        s.up(0, true);
        s.up(1, true);
        due("next(0): a CYCLE later", s.next(0), 4511);
        // By SIZE the first two crash in the first tick; in thought nobody does.
        PassScreener t = Kit.skyOf("gap 0 size 20;" + shuttle("a", 10, 0, 9) + shuttle("b", 11, 0, 9)
                + Kit.body("c", 10, 10, 3, 2, 0, 0, 0, 9));
        due("next(0)", t.next(0), 4);
        due("next(2)", t.next(2), 2);
        by(0, "of like ones the pair first by its numbers.");
        PassScreener u = row(5);
        due("next(1)", u.next(1), 0);
        due("next(2)", u.next(2), 1);
        u.up(0, false);
        due("next(1): the first is down", u.next(1), 1);
        due("next(2): the first is down", u.next(2), 2);
        u.up(2, false);
        due("next(0): none are so near", u.next(0), NONE);
        by(22, "NONE when there is none by then, or for others.");
        for (int what : new int[] {-1, 4, MAX, MIN}) {
            due("next(" + what + ")", row(5).next(what), NONE);
        }
        for (int what = 0; what < 4; what++) {
            due("next(" + what + "): never", row(4).next(what), NONE);
        }
    }

    private void nextFarAhead() {
        by(22, "NEXT, if it is no more than 2400 TICKS behind NOW: 0 the TICK");
        PassScreener s = Kit.skyOf(LATE);
        s.up(0, false);
        for (int k = 0; k < 10; k++) {
            s.ticks(999);
        }
        s.ticks(9);
        s.up(0, true);
        // 9999 is 975 of the fifth CYCLE: the next meeting is 5 * 2256 - 1.
        due("next(0): beyond 9999", s.next(0), 11279);
        s.burn(0, 0, 1);
        // Where its ring begins, by PHASES of 2 and 1.
        int tick = 9999;
        while ((tick + 2) % 48 != 0 || (tick + 1) % 47 != 0) {
            tick++;
        }
        due("next(0): behind a burn", s.next(0), tick);
    }

    private void threats() {
        by(23, "How many BODIES a BODY, UP or not, would be NEAR, were it UP; NONE when there is none such.");
        PassScreener s = row(5);
        due("threats(0)", s.threats(0), 1);
        due("threats(1)", s.threats(1), 2);
        s.up(1, false);
        due("threats(1), being down", s.threats(1), 2);
        due("threats(0), the other being down", s.threats(0), 0);
        s.gap(0);
        due("threats(1) by 0", s.threats(1), 0);
        for (int body : NO_BODY) {
            due("threats(" + body + ")", s.threats(body), NONE);
        }
        PassScreener full = Kit.skyOf("gap 99 size 0;" + tenBodies());
        due("threats(5): all nine", full.threats(5), 9);
    }

    private void groups() {
        by(0, "A GROUP are BODIES that are UP of which each can be come to from each other by pairs that are NEAR.");
        PassScreener s = row(5);
        due("group(3): along the row", s.group(3), 0);
        due("has(14)", s.has(14), 1);
        s.up(2, false);
        due("group(3): cut off", s.group(3), 3);
        due("group(1)", s.group(1), 0);
        due("has(14)", s.has(14), 2);
        s.gap(4);
        due("has(14): each alone", s.has(14), 3);
        PassScreener full = Kit.skyOf("gap 15 size 0;" + tenBodies());
        due("group(9): along nine pairs", full.group(9), 0);
        due("has(14): of ten", full.has(14), 1);
        full.gap(14);
        due("has(14): ten", full.has(14), 10);
        due("group(9): alone", full.group(9), 9);
        by(24, "NONE when it is down, or there is none such.");
        due("group(2), being down", s.group(2), NONE);
        for (int body : NO_BODY) {
            due("group(" + body + ")", s.group(body), NONE);
        }
    }

    private void chances() {
        by(25, "as both PHASES are told e less up to e more (0 .. 5; mod TURN), each with each");
        // On one ring of 2, by 0: they meet with like phases alone. Of 11 by 11 rows 6 * 6 + 5 * 5 are like.
        PassScreener s = Kit.skyOf("gap 0 size 0;" + shuttle("a", 10, 0, 9) + shuttle("b", 10, 0, 9)
                + shuttle("c", 10, 1, 9));
        int[] like = {1, 5, 13, 25, 41, 61};
        int[] all = {1, 9, 25, 49, 81, 121};
        for (int e = 0; e <= 5; e++) {
            due("chances(0, 1, " + e + ", 0)", s.chances(0, 1, e, 0), like[e]);
            due("chances(0, 2, " + e + ", 0)", s.chances(0, 2, e, 0), all[e] - like[e]);
            due("chances(0, 1, " + e + ", 1)", s.chances(0, 1, e, 1), all[e]);
        }
        // On a ring of 48, PHASES 0 and 47: a step is round; 2 e rows of 2 e + 1 squared are off by one that way.
        PassScreener t = Kit.skyOf("gap 0 size 0;" + Kit.body("a", 200, 200, 48, 0, 0, 0, 0, 9)
                + Kit.body("b", 200, 200, 48, 47, 0, 0, 0, 9));
        for (int e = 0; e <= 5; e++) {
            due("chances(0, 1, " + e + ", 0) round", t.chances(0, 1, e, 0), 2 * e);
            due("chances(1, 0, " + e + ", 0) round", t.chances(1, 0, e, 0), 2 * e);
        }
        by(25, "by how many of these rows they would be NEAR, were they UP (what 0), of how many (1)");
        s.up(0, false);
        s.up(1, false);
        due("chances(0, 1, 5, 0) of those that are down", s.chances(0, 1, 5, 0), 61);
        due("chances(0, 1, 5, 1) of those that are down", s.chances(0, 1, 5, 1), 121);
        due("body(0, 3): nothing is done", s.body(0, 3), 0);
        by(25, "NONE when e can't be, they are one, there are none such, or for others.");
        for (int e : NO_UNSURENESS) {
            due("chances(0, 1, " + e + ", 0)", s.chances(0, 1, e, 0), NONE);
            due("chances(0, 1, " + e + ", 1)", s.chances(0, 1, e, 1), NONE);
        }
        for (int what : new int[] {-1, 2, MAX, MIN}) {
            due("chances(0, 1, 0, " + what + ")", s.chances(0, 1, 0, what), NONE);
        }
        for (int what = 0; what < 2; what++) {
            due("chances(0, 0, 0, " + what + ")", s.chances(0, 0, 0, what), NONE);
            for (int body : new int[] {-1, 3, 10, MAX, MIN}) {
                due("chances(0, " + body + ", 0, " + what + ")", s.chances(0, body, 0, what), NONE);
                due("chances(" + body + ", 0, 0, " + what + ")", s.chances(body, 0, 0, what), NONE);
            }
        }
    }

    private void margins() {
        by(26, "The least e (0 .. 5) by which that is above 0; NONE when it never is");
        int[] least = {0, 1, 1, 2, 2, 3, 3, 4, 4, 5, 5, NONE, NONE};
        for (int off = 0; off < least.length; off++) {
            PassScreener s = Kit.skyOf("gap 0 size 0;" + Kit.body("a", 200, 200, 48, 40, 0, 0, 0, 9)
                    + Kit.body("b", 200, 200, 48, (40 + off) % 48, 0, 0, 0, 9));
            due("margin(0, 1), off by " + off, s.margin(0, 1), least[off]);
            due("margin(1, 0), off by " + off, s.margin(1, 0), least[off]);
            s.up(0, false);
            due("margin(0, 1), one being down", s.margin(0, 1), least[off]);
        }
        by(26, "they are one, or there are none such.");
        PassScreener t = row(99);
        due("margin(0, 0)", t.margin(0, 0), NONE);
        for (int body : NO_BODY) {
            due("margin(0, " + body + ")", t.margin(0, body), NONE);
            due("margin(" + body + ", 0)", t.margin(body, 0), NONE);
        }
    }

    private void watched(PassScreener s, int e, int... due) {
        for (int what = 0; what < 3; what++) {
            due("watch(" + e + ", " + what + ")", s.watch(e, what), due[what]);
        }
    }

    private void watches() {
        by(27, "that is greatest, of like ones the first by their numbers: 0, 1 which, 2 how many.");
        PassScreener s = Kit.skyOf("gap 0 size 0;" + shuttle("a", 10, 0, 9) + shuttle("b", 10, 1, 9)
                + shuttle("c", 10, 0, 9) + shuttle("d", 10, 1, 9));
        watched(s, 0, 0, 2, 1);
        watched(s, 1, 0, 2, 5);
        watched(s, 5, 0, 2, 61);
        s.up(0, false);
        watched(s, 0, 1, 3, 1);
        s.up(1, false);
        watched(s, 0, 2, 3, 0);
        watched(s, 1, 2, 3, 4);
        by(27, "NONE when fewer than two are UP, e can't be, or for others.");
        for (int e : NO_UNSURENESS) {
            watched(s, e, NONE, NONE, NONE);
        }
        for (int what : new int[] {-1, 3, MAX, MIN}) {
            due("watch(0, " + what + ")", s.watch(0, what), NONE);
        }
        s.up(2, false);
        watched(s, 0, NONE, NONE, NONE);
        s.up(3, false);
        watched(s, 0, NONE, NONE, NONE);
    }

    private void remains() {
        by(28, "The k-th of all pairs, UP or not, by their numbers, that no SIEVE drops: 0, 1 which.");
        PassScreener full = Kit.skyOf("gap 99 size 0;" + tenBodies());
        full.up(0, false);
        int k = 0;
        for (int one = 0; one < 10; one++) {
            for (int other = one + 1; other < 10; other++) {
                due("remains(" + k + ", 0)", full.remains(k, 0), one);
                due("remains(" + k + ", 1)", full.remains(k, 1), other);
                k++;
            }
        }
        by(28, "NONE when there is none such, or for others.");
        for (int none : new int[] {45, 46, -1, MAX, MIN}) {
            due("remains(" + none + ", 0)", full.remains(none, 0), NONE);
            due("remains(" + none + ", 1)", full.remains(none, 1), NONE);
        }
        for (int what : new int[] {-1, 2, MAX, MIN}) {
            due("remains(0, " + what + ")", full.remains(0, what), NONE);
        }
        full.gap(1);
        due("remains(0, 0): all are sieved", full.remains(0, 0), NONE);
    }

    private void crowds() {
        by(29, "How many BODIES that are UP can be at a HEIGHT (LOW no more, HIGH no less than that)");
        PassScreener s = Kit.skyOf("gap 0 size 0;" + Kit.body("a", 1, 200, 2, 0, 0, 0, 0, 9)
                + Kit.body("b", 50, 60, 2, 0, 0, 0, 0, 9) + Kit.body("c", 200, 200, 2, 0, 0, 0, 0, 9));
        int[][] many = {{0, 0}, {1, 1}, {49, 1}, {50, 2}, {60, 2}, {61, 1}, {199, 1}, {200, 2}, {201, 0}, {MAX, 0}};
        for (int[] row : many) {
            due("crowd(" + row[0] + ")", s.crowd(row[0]), row[1]);
        }
        s.up(0, false);
        due("crowd(50), one being down", s.crowd(50), 1);
        due("crowd(0) without a sky", new PassScreener().crowd(0), 0);
        by(29, "NONE for one below 0.");
        due("crowd(-1)", s.crowd(-1), NONE);
        due("crowd(MIN)", s.crowd(MIN), NONE);
        due("crowd(-1) without a sky", new PassScreener().crowd(-1), NONE);
    }

    private void crowded() {
        by(30, "The HEIGHT at which most BODIES that are UP can be, of like ones the least (what 0), how many (1).");
        PassScreener s = Kit.skyOf("gap 0 size 0;" + Kit.body("a", 1, 10, 2, 0, 0, 0, 0, 9)
                + Kit.body("b", 10, 20, 2, 0, 0, 0, 0, 9) + Kit.body("c", 20, 30, 2, 0, 0, 0, 0, 9)
                + Kit.body("d", 200, 200, 2, 0, 0, 0, 0, 9));
        due("crowded(0): 10 and 20 are alike", s.crowded(0), 10);
        due("crowded(1)", s.crowded(1), 2);
        s.up(0, false);
        due("crowded(0)", s.crowded(0), 20);
        s.up(1, false);
        due("crowded(0): 20 .. 30 and 200 are alike", s.crowded(0), 20);
        due("crowded(1)", s.crowded(1), 1);
        s.up(2, false);
        due("crowded(0): 200 alone", s.crowded(0), 200);
        PassScreener down = Kit.skyOf("gap 0 size 0;" + shuttle("a", 90, 0, 9) + shuttle("b", 50, 0, 9)
                + shuttle("c", 70, 0, 9));
        due("crowded(0): the least is told behind a higher one", down.crowded(0), 50);
        due("crowded(1)", down.crowded(1), 1);
        by(30, "NONE when none is UP, or for others.");
        for (int what : new int[] {-1, 2, MAX, MIN}) {
            due("crowded(" + what + ")", s.crowded(what), NONE);
        }
        s.up(3, false);
        due("crowded(0)", s.crowded(0), NONE);
        due("crowded(1)", s.crowded(1), NONE);
        PassScreener t = Kit.skyOf("gap 0 size 0;");
        due("crowded(0) without BODIES", t.crowded(0), NONE);
    }
}
