import java.util.ArrayList;
import java.util.List;

/** Edges of promises 45 to 50: acts, their limits, how they are undone, the seed. */
final class EdgesOfActs extends Edge {
    private static final String PAIR = "gap 3 size 0;" + shuttle("a", 50, 0, 9) + shuttle("b", 50, 1, 9);

    private EdgesOfActs() {
    }

    public static void main(String[] args) {
        EdgesOfActs edges = new EdgesOfActs();
        edges.up();
        edges.gap();
        edges.ticks();
        edges.chanceLimits();
        edges.chanceDraws();
        edges.undoLimits();
        edges.undoWhat();
        edges.undoRound();
        edges.seed();
        edges.close(args);
    }

    private void up() {
        by(45, "A BODY is UP, or down: true; false, refused (2), when it is so, or there is none such.");
        PassScreener s = Kit.skyOf("gap 0 size 0;" + tenBodies());
        int refused = 0;
        for (int body = 0; body < 10; body++) {
            due("up(" + body + ", true): it is so", s.up(body, true), false);
            due("status(2)", s.status(2), ++refused);
            due("up(" + body + ", false)", s.up(body, false), true);
            due("up(" + body + ", false): it is so", s.up(body, false), false);
            due("status(2)", s.status(2), ++refused);
        }
        due("has(1): all are down", s.has(1), 0);
        due("has(6)", s.has(6), 10);
        for (int body : new int[] {-1, 10, 11, MAX, MIN}) {
            due("up(" + body + ", true)", s.up(body, true), false);
            due("up(" + body + ", false)", s.up(body, false), false);
            refused += 2;
            due("status(2)", s.status(2), refused);
        }
        due("has(6): refused ones can't be undone", s.has(6), 10);
        due("up(9, true)", s.up(9, true), true);
        due("stays(0)", s.stays(0), 512);
        due("up(0, true) without a sky", new PassScreener().up(0, true), false);
        due("up(0, false) without a sky", new PassScreener().up(0, false), false);
    }

    private void gap() {
        by(46, "Another GAP (0 .. 99): true; false, refused (3), when it is that, it can't be, or without a sky.");
        PassScreener s = Kit.skyOf(PAIR);
        int refused = 0;
        for (int gap : new int[] {3, -1, 100, MAX, MIN}) {
            due("gap(" + gap + ")", s.gap(gap), false);
            due("status(3)", s.status(3), ++refused);
            due("has(2)", s.has(2), 3);
        }
        due("has(6): refused ones can't be undone", s.has(6), 0);
        due("gap(0)", s.gap(0), true);
        due("gap(0): it is that", s.gap(0), false);
        due("gap(99)", s.gap(99), true);
        due("gap(99): it is that", s.gap(99), false);
        due("has(2)", s.has(2), 99);
        PassScreener t = new PassScreener();
        due("gap(0) without a sky", t.gap(0), false);
        due("gap(5) without a sky", t.gap(5), false);
        due("status(3) without a sky", t.status(3), 2);
        PassScreener u = Kit.skyOf("gap 5 size 0;");
        due("gap(6) without BODIES", u.gap(6), true);
        due("undo() without BODIES", u.undo(), true);
        due("has(2) without BODIES", u.has(2), 5);
    }

    private void ticks() {
        by(47, "n TICKS (1 .. 999) go: NOW; NONE, refused (2), when n can't be, it would be more than 9999, or without "
                + "a sky.");
        PassScreener s = Kit.skyOf(PAIR);
        int refused = 0;
        for (int n : new int[] {0, -1, 1000, MAX, MIN}) {
            due("ticks(" + n + ")", s.ticks(n), NONE);
            due("status(2)", s.status(2), ++refused);
            due("has(3)", s.has(3), 0);
        }
        due("ticks(1)", s.ticks(1), 1);
        due("ticks(999)", s.ticks(999), 1000);
        for (int k = 2; k <= 9; k++) {
            s.ticks(999);
            s.ticks(1);
        }
        due("has(3)", s.has(3), 9000);
        due("ticks(998)", s.ticks(998), 9998);
        due("ticks(2): 10000", s.ticks(2), NONE);
        due("ticks(999)", s.ticks(999), NONE);
        due("ticks(1)", s.ticks(1), 9999);
        due("ticks(1): 10000", s.ticks(1), NONE);
        due("status(2)", s.status(2), refused + 3);
        due("has(6): 20 of 20", s.has(6), 20);
        due("ticks(1) without a sky", new PassScreener().ticks(1), NONE);
        PassScreener t = Kit.skyOf("gap 5 size 0;");
        due("ticks(999) without BODIES", t.ticks(999), 999);
        due("has(6) without BODIES", t.has(6), 1);
    }

    /** A sky at a TICK, with nothing that could crash. */
    private static PassScreener at(int now) {
        PassScreener s = Kit.skyOf("gap 3 size 0;" + shuttle("a", 50, 0, 9));
        for (int k = 0; k < now / 999; k++) {
            s.ticks(999);
        }
        if (now % 999 > 0) {
            s.ticks(now % 999);
        }
        return s;
    }

    private void chanceLimits() {
        by(48, "n times by the seed (1 .. 40), one ACT: NOW; NONE, refused (2), when n can't be, it could come beyond "
                + "9999 (7 each time), or there are no BODIES.");
        PassScreener s = at(0);
        int refused = 0;
        for (int n : new int[] {0, -1, 41, MAX, MIN, 306783379, 613566757}) {
            // The last two times 7 come round to small numbers.
            due("chance(" + n + ")", s.chance(n), NONE);
            due("status(2)", s.status(2), ++refused);
        }
        due("has(7): the seed stays", s.has(7), 1);
        due("has(6)", s.has(6), 0);
        due("chance(40)", s.chance(40) == s.has(3), true);
        due("has(6): one ACT", s.has(6), 1);
        due("undo()", s.undo(), true);
        due("has(3)", s.has(3), 0);
        int[][] edges = {{9719, 40, 1}, {9720, 40, 0}, {9992, 1, 1}, {9993, 1, 0}, {9985, 2, 1}, {9986, 2, 0},
            {9999, 1, 0}, {9998, 1, 0}};
        for (int[] edge : edges) {
            PassScreener t = at(edge[0]);
            int seed = t.has(7);
            due("chance(" + edge[1] + ") at " + edge[0], t.chance(edge[1]) != NONE, edge[2] == 1);
            due("status(2)", t.status(2), 1 - edge[2]);
            due("has(3) stays, if refused", edge[2] == 1 || t.has(3) == edge[0], true);
            due("has(7) stays, if refused", edge[2] == 1 || t.has(7) == seed, true);
            due("has(3) is 9999 at most", t.has(3) <= 9999, true);
        }
        PassScreener u = new PassScreener();
        due("chance(1) without a sky", u.chance(1), NONE);
        Kit.tell(u, "gap 5 size 0;");
        due("chance(1) without BODIES", u.chance(1), NONE);
        due("status(2)", u.status(2), 2);
        due("has(7): the seed stays", u.has(7), 1);
    }

    private long drawn;

    private int draw(int many) {
        drawn = (1103515245L * drawn + 12345) % (1L << 31);
        return (int) (drawn / 64 % many);
    }

    private void chanceDraws() {
        by(0, "by the seed n times: a DRAW of the BODIES, a DRAW of 3: by 0 it is down, or UP again; by 1 a DRAW of TURN "
                + "is its PHASE; by 2 a DRAW of TURN its LIFT; then a DRAW of 8 TICKS go");
        int[] turns = {2, 3, 47, 48};
        for (int seed : new int[] {0, 1, 5, 12345, 1 << 30, MAX - 1, MAX}) {
            PassScreener s = Kit.skyOf("gap 0 size 0;" + Kit.body("a", 1, 10, 2, 0, 0, 0, 0, 0)
                    + Kit.body("b", 50, 60, 3, 0, 0, 0, 0, 0) + Kit.body("c", 100, 110, 47, 0, 0, 0, 0, 0)
                    + Kit.body("d", 150, 160, 48, 0, 0, 0, 0, 0));
            s.seed(seed);
            drawn = seed;
            int[][] numbers = new int[4][3];
            int now = 0;
            for (int n : new int[] {1, 2, 40}) {
                for (int time = 0; time < n; time++) {
                    int body = draw(4);
                    int way = draw(3);
                    numbers[body][way] = way == 0 ? 1 - numbers[body][0] : draw(turns[body]);
                    now += draw(8);
                }
                due("chance(" + n + ") by " + seed, s.chance(n), now);
                due("has(7)", s.has(7), drawn);
                for (int body = 0; body < 4; body++) {
                    due("body(" + body + ", 8)", s.body(body, 8), 1 - numbers[body][0]);
                    due("body(" + body + ", 3)", s.body(body, 3), numbers[body][1]);
                    due("body(" + body + ", 4)", s.body(body, 4), numbers[body][2]);
                    due("body(" + body + ", 7): no FUEL goes", s.body(body, 7), 0);
                }
            }
        }
    }

    private void undoLimits() {
        by(0, "The last 20 can be undone.");
        PassScreener s = Kit.skyOf(PAIR);
        for (int k = 1; k <= 21; k++) {
            s.gap(20 + k);
            due("has(6) behind " + k, s.has(6), Math.min(20, k));
        }
        for (int k = 20; k >= 1; k--) {
            due("undo()", s.undo(), true);
            due("has(2)", s.has(2), 20 + k);
            due("has(6)", s.has(6), k - 1);
        }
        by(49, "false, refused (4), when none can be.");
        due("undo() of the 21st from the last", s.undo(), false);
        due("has(2)", s.has(2), 21);
        due("status(4)", s.status(4), 1);
        PassScreener t = new PassScreener();
        due("undo() without a sky", t.undo(), false);
        due("status(4) without a sky", t.status(4), 1);
        Kit.tell(t, PAIR);
        due("undo() behind sky()", t.undo(), false);
        t.gap(5);
        Kit.tell(t, PAIR);
        due("undo() behind another sky()", t.undo(), false);
        t.gap(5);
        Kit.tape(t, imageOf(t));
        due("on()", t.on(), true);
        due("undo() behind on()", t.undo(), false);
        due("status(4)", t.status(4), 4);
        due("ticks(0), which is refused", t.ticks(0), NONE);
        t.seed(4);
        Kit.tape(t, 0, 0);
        t.see(0);
        due("undo() of what is no ACT", t.undo(), false);
    }

    private void undoWhat() {
        by(49, "The latest ACT is undone (the seed, what is SEEN stay): true");
        PassScreener s = Kit.skyOf("gap 3 size 1;" + shuttle("a", 50, 0, 90) + shuttle("b", 51, 0, 9)
                + Kit.body("c", 100, 120, 7, 3, 2, 5, 1, 99));
        int[][] acts = {{0, 0, 1}, {2, 0, 3}, {2, 1, 5}, {2, 2, 6}, {2, 3, 7}, {2, 4, 8}, {2, 5, 4}};
        for (int[] act : acts) {
            String before = stateOf(s);
            int place = s.spot(act[0], 5, 0);
            due("burn", s.burn(act[0], act[1], act[2]) != NONE, true);
            due("undo()", s.undo(), true);
            dueSame("a burn undone", s, before);
            due("spot(.., 5, 0)", s.spot(act[0], 5, 0), place);
        }
        PassScreener t = Kit.skyOf("gap 0 size 0;" + shuttle("a", 50, 0, 90) + shuttle("b", 50, 0, 9));
        due("sieve(0, 1)", t.sieve(0, 1), 0);
        due("closest(0, 1, 1)", t.closest(0, 1, 1), 0);
        t.burn(1, 2, 2);
        due("sieve(0, 1) behind a burn", t.sieve(0, 1), 1);
        due("closest(0, 1, 1) behind a burn", t.closest(0, 1, 1), 4);
        t.undo();
        due("sieve(0, 1), the burn being undone", t.sieve(0, 1), 0);
        due("closest(0, 1, 1), the burn being undone", t.closest(0, 1, 1), 0);
        String before = stateOf(s);
        s.up(1, false);
        s.undo();
        dueSame("up() undone", s, before);
        s.gap(99);
        s.undo();
        dueSame("gap() undone", s, before);
        due("ticks(999)", s.ticks(999), 999);
        due("has(12): crashed", s.has(12), 1);
        s.undo();
        dueSame("ticks() undone", s, before);
        due("kept(0, 0)", s.kept(0, 0), NONE);
        due("doom(0)", s.doom(0), 1);
        s.chance(40);
        int seed = s.has(7);
        Kit.tape(s, 0, 0, 1, 1);
        due("see(0)", s.see(0), 2);
        s.undo();
        due("has(7): the seed stays", s.has(7), seed);
        due("has(5): SEEN stays", s.has(5), 2);
        due("has(3)", s.has(3), 0);
        due("body(2, 4)", s.body(2, 4), 2);
        due("body(2, 3)", s.body(2, 3), 3);
        due("octet(0) of no image()", s.octet(0), NONE);
    }

    private void undoRound() {
        by(49, "The latest ACT is undone");
        PassScreener s = Kit.skyOf(PAIR);
        List<Integer> gaps = new ArrayList<>();
        int gap = 3;
        int calls = 0;
        // Eleven on and seven back, many times: the rows of acts go round.
        for (int round = 0; round < 5; round++) {
            for (int k = 0; k < 11; k++) {
                gaps.add(gap);
                if (gaps.size() > 20) {
                    gaps.remove(0);
                }
                gap = (gap + 1) % 100;
                s.gap(gap);
                calls++;
            }
            for (int k = 0; k < 7; k++) {
                gap = gaps.remove(gaps.size() - 1);
                due("undo() of " + calls, s.undo(), true);
                due("has(2)", s.has(2), gap);
            }
            due("has(6)", s.has(6), gaps.size());
        }
    }

    private void seed() {
        by(50, "The seed: true; false, refused (5), when it is below 0.");
        PassScreener s = new PassScreener();
        for (int seed : new int[] {0, 1, MAX, 1 << 30}) {
            due("seed(" + seed + ")", s.seed(seed), true);
            due("has(7)", s.has(7), seed);
            due("seed(-1)", s.seed(-1), false);
            due("seed(MIN)", s.seed(MIN), false);
            due("has(7): it stays", s.has(7), seed);
        }
        due("status(5)", s.status(5), 8);
        due("has(6): no ACT", s.has(6), 0);
        by(0, "A DRAW of m: x (the seed) becomes (1103515245 x + 12345) mod 2 to the 31; floor(x / 64) mod m.");
        // Of one BODY of 48, by seeds at both ends and between: down and 4 TICKS; LIFT 31; PHASE 47; down and 7 TICKS.
        int[][] draws = {{MAX, 4, 646343466, 0, 5, 6}, {0, 0, 1449466924, 1, 5, 31}, {1 << 30, 0, 375725100, 1, 47, 6},
            {3, 7, 679304702, 0, 5, 6}};
        for (int[] row : draws) {
            PassScreener t = Kit.skyOf("gap 0 size 0;" + Kit.body("a", 9, 99, 48, 5, 6, 0, 0, 0));
            t.seed(row[0]);
            due("chance(1) by " + row[0], t.chance(1), row[1]);
            due("has(7)", t.has(7), row[2]);
            due("body(0, 8)", t.body(0, 8), row[3]);
            due("body(0, 3)", t.body(0, 3), row[4]);
            due("body(0, 4)", t.body(0, 4), row[5]);
        }
    }
}
