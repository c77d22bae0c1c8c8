/** Edges of promises 41 to 43: what was seen, the phases that fit, the tick that tells most. */
final class EdgesOfSight extends Edge {
    /** By steps (4,0) (0,4) (-4,0) (0,-4): QUARTERS 0 0 1 2; and a ring of 8: 0 0 0 1 1 3 2 2. */
    private static final String SKY = "gap 0 size 0;" + Kit.body("a", 4, 4, 4, 1, 0, 0, 0, 9)
            + Kit.body("b", 10, 10, 8, 5, 0, 0, 0, 9);

    private EdgesOfSight() {
    }

    public static void main(String[] args) {
        EdgesOfSight edges = new EdgesOfSight();
        edges.quarters();
        edges.rows();
        edges.refused();
        edges.fits();
        edges.lastSeen();
        edges.tells();
        edges.close(args);
    }

    private void seen(PassScreener s, int body, int... rows) {
        Kit.tape(s, rows);
        due("see(" + body + ")", s.see(body), rows.length / 2);
    }

    private void quarters() {
        by(0, "a QUARTER in which a BODY was (1, if x is below 0, and 2 more, if y is)");
        PassScreener s = Kit.skyOf(SKY);
        int[] many = {2, 1, 1, 0};
        int[] first = {0, 2, 3, NONE};
        int[] manyOfEight = {3, 2, 2, 1};
        int[] firstOfEight = {0, 3, 6, 5};
        for (int quarter = 0; quarter < 4; quarter++) {
            seen(s, 0, 0, quarter);
            due("fits(-1), 0 being not below 0", s.fits(NONE), many[quarter]);
            due("fits(0)", s.fits(0), first[quarter]);
            seen(s, 1, 0, quarter);
            due("fits(-1) of eight", s.fits(NONE), manyOfEight[quarter]);
            due("fits(0) of eight", s.fits(0), firstOfEight[quarter]);
        }
    }

    private void rows() {
        by(41, "1 to 16 rows of two bytes (a TICK 0 .. 255, a QUARTER 0 .. 3): how many rows");
        PassScreener s = Kit.skyOf(SKY);
        seen(s, 0, 0, 0);
        due("has(5)", s.has(5), 1);
        due("end(1): the tape is gone", s.end(1), false);
        int[] sixteen = new int[32];
        for (int row = 0; row < 16; row++) {
            sixteen[2 * row] = 240 + row;
            sixteen[2 * row + 1] = new int[] {0, 0, 1, 2}[(240 + row + 2) % 4];
        }
        seen(s, 0, sixteen);
        due("has(5)", s.has(5), 16);
        due("fits(-1)", s.fits(NONE), 1);
        due("fits(0)", s.fits(0), 2);
        // 255 is 3 of 4: a PHASE of 3 leads to (-4,0) then.
        seen(s, 0, 255, 1);
        due("fits(0) by the last TICK", s.fits(0), 3);
        due("fits(-1)", s.fits(NONE), 1);
        s.ticks(9);
        due("fits(0): NOW counts for nothing", s.fits(0), 3);
        // Two rows of one TICK that can't be both.
        seen(s, 0, 7, 1, 7, 2);
        due("fits(-1)", s.fits(NONE), 0);
        due("status(5)", s.status(5), 0);
    }

    private void refused() {
        by(41, "NONE, refused (5), all staying, when it is none such, or there is no such BODY.");
        PassScreener s = Kit.skyOf(SKY);
        seen(s, 0, 255, 1);
        s.ticks(1);
        String before = stateOf(s);
        int[][] tapes = {{}, {0}, {0, 0, 0}, {0, 4}, {0, 255}, {0, 0, 0, 4}, {0, 4, 0, 0}, new int[31], new int[33],
            new int[34], new int[1600]};
        int refused = 0;
        for (int[] tape : tapes) {
            Kit.tape(s, tape);
            due("see(0) of " + tape.length + " bytes", s.see(0), NONE);
            due("end(1): the tape is gone", s.end(1), false);
            due("status(5)", s.status(5), ++refused);
            dueSame("see(0) of " + tape.length + " bytes", s, before);
        }
        for (int body : new int[] {-1, 2, 10, MAX, MIN}) {
            Kit.tape(s, 0, 0);
            due("see(" + body + ")", s.see(body), NONE);
            due("end(1): the tape is gone", s.end(1), false);
            due("status(5)", s.status(5), ++refused);
            dueSame("see(" + body + ")", s, before);
        }
        PassScreener t = new PassScreener();
        Kit.tape(t, 0, 0);
        due("see(0) without a sky", t.see(0), NONE);
        due("has(5) without a sky", t.has(5), 0);
    }

    private void fits() {
        by(42, "how many (k NONE), the k-th PHASE, rising.");
        PassScreener s = Kit.skyOf(SKY);
        seen(s, 1, 255, 0);
        // 255 is 7 of 8: the PHASES that lead to steps 0, 1, 2 are 1, 2, 3.
        due("fits(-1)", s.fits(NONE), 3);
        for (int k = 0; k < 3; k++) {
            due("fits(" + k + ")", s.fits(k), k + 1);
        }
        seen(s, 1, 1, 0);
        int[] round = {0, 1, 7};
        for (int k = 0; k < 3; k++) {
            due("fits(" + k + ") round", s.fits(k), round[k]);
        }
        by(42, "NONE when there is none such, or nothing is SEEN.");
        for (int k : new int[] {3, 8, -2, MAX, MIN}) {
            due("fits(" + k + ")", s.fits(k), NONE);
        }
        // Twelve of 48 are in each QUARTER, but for what lies on a line between two.
        PassScreener u = Kit.skyOf("gap 0 size 0;" + Kit.body("a", 48, 48, 48, 0, 0, 0, 0, 9));
        seen(u, 0, 0, 0);
        due("fits(-1) of 48", u.fits(NONE), 13);
        due("fits(12) of 48", u.fits(12), 12);
        due("fits(13) of 48", u.fits(13), NONE);
        due("fits(MAX) of 48", u.fits(MAX), NONE);
        seen(s, 0, 0, 3);
        due("fits(-1): none fits", s.fits(NONE), 0);
        due("fits(0): none fits", s.fits(0), NONE);
        PassScreener t = Kit.skyOf(SKY);
        due("fits(-1): nothing is SEEN", t.fits(NONE), NONE);
        due("fits(0): nothing is SEEN", t.fits(0), NONE);
        due("fits(-1) without a sky", new PassScreener().fits(NONE), NONE);
    }

    private void lastSeen() {
        by(42, "FITS of the BODY that was SEEN last");
        PassScreener s = Kit.skyOf(SKY);
        seen(s, 1, 0, 0);
        seen(s, 0, 0, 0);
        due("fits(-1) of four", s.fits(NONE), 2);
        seen(s, 1, 0, 0);
        due("fits(-1) of eight", s.fits(NONE), 3);
        s.up(1, false);
        due("fits(-1), being down", s.fits(NONE), 3);
        Kit.tell(s, SKY);
        due("fits(-1) behind another sky", s.fits(NONE), NONE);
        due("tells(0) behind another sky", s.tells(0), NONE);
    }

    private void tells() {
        by(0, "TELLING is the TICK (0 .. TURN less 1) by whose QUARTER the most FITS left are fewest; of like ones the "
                + "first.");
        PassScreener s = Kit.skyOf(SKY);
        seen(s, 0, 0, 0);
        // 0 and 1 are told apart at 1 (0, 1) and at 2, too.
        due("tells(0)", s.tells(0), 1);
        due("tells(1)", s.tells(1), 1);
        seen(s, 0, 0, 1);
        due("tells(0): one fits, any TICK tells as much", s.tells(0), 0);
        due("tells(1)", s.tells(1), 1);
        seen(s, 1, 0, 0);
        // 0, 1, 2 of eight: at 4 they are at 4, 5, 6, in three QUARTERS.
        due("tells(0) of eight", s.tells(0), 4);
        due("tells(1) of eight", s.tells(1), 1);
        // The least ring: x is below 0 at steps 24 .. 35, y is cut to 0. Six ticks on half of these twelve are out.
        PassScreener t = Kit.skyOf("gap 0 size 0;" + Kit.body("a", 1, 1, 48, 0, 0, 8, 0, 9));
        seen(t, 0, 0, 1);
        due("fits(-1) of 48", t.fits(NONE), 12);
        due("tells(0) of 48", t.tells(0), 6);
        due("tells(1) of 48", t.tells(1), 6);
        seen(t, 0, 0, 1, 11, 0, 47, 0);
        due("fits(-1): 24 alone is at the beginning", t.fits(NONE), 0);
        seen(t, 0, 0, 1, 11, 1, 47, 0);
        due("fits(-1)", t.fits(NONE), 1);
        due("fits(0)", t.fits(0), 24);
        by(43, "NONE without FITS, for others, or when nothing is SEEN.");
        for (int what : new int[] {-1, 2, MAX, MIN}) {
            due("tells(" + what + ")", s.tells(what), NONE);
        }
        seen(s, 0, 0, 3);
        due("tells(0): none fits", s.tells(0), NONE);
        due("tells(1): none fits", s.tells(1), NONE);
        PassScreener u = Kit.skyOf(SKY);
        due("tells(0): nothing is SEEN", u.tells(0), NONE);
        due("tells(1): nothing is SEEN", u.tells(1), NONE);
        due("tells(0) without a sky", new PassScreener().tells(0), NONE);
    }
}
