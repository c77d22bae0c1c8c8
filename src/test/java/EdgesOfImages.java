import java.util.Arrays;

/** Edges of promises 51 to 54: images, and how many calls were refused. */
final class EdgesOfImages extends Edge {
    private static final String TWO = "gap 3 size 1;" + Kit.body("a", 10, 20, 12, 3, 5, 8, 2, 99)
            + Kit.body("b", 1, 200, 2, 0, 1, 0, 0, 0);

    private EdgesOfImages() {
    }

    public static void main(String[] args) {
        EdgesOfImages edges = new EdgesOfImages();
        edges.lengths();
        edges.lastByte();
        edges.octets();
        edges.on();
        edges.onRange();
        edges.onRefused();
        edges.onWithoutSky();
        edges.status();
        edges.statusOfAll();
        edges.close(args);
    }

    private void lengths() {
        by(51, "how many bytes (2 without a sky).");
        PassScreener s = new PassScreener();
        due("image() without a sky", s.image(), 2);
        Kit.tell(s, "gap 7 size 1;");
        due("image() without BODIES", s.image(), 2);
        due("octet(0): GAP", s.octet(0), 7);
        Kit.tell(s, TWO);
        due("image() of two", s.image(), 16);
        Kit.tell(s, "gap 99 size 0;" + tenBodies());
        due("image() of ten", s.image(), 72);
        s.up(9, false);
        due("image() of ten, one being down", s.image(), 72);
        due("octet(64)", s.octet(64), 0);
        due("octet(57)", s.octet(57), 1);
        by(0, "AN IMAGE: GAP; for each BODY 1, if UP, else 0, LOW, HIGH, PHASE, LIFT, TILT, FUEL");
        PassScreener t = Kit.skyOf("gap 99 size 20;" + Kit.body("a", 1, 1, 2, 0, 0, 0, 0, 0)
                + Kit.body("b", 200, 200, 48, 47, 46, 16, 3, 99));
        t.up(0, false);
        int[] due = sealed(99, 0, 1, 1, 0, 0, 0, 0, 1, 200, 200, 47, 46, 16, 99);
        due("image()", Arrays.equals(imageOf(t), due), true);
    }

    private void lastByte() {
        by(0, "last a byte: all ahead from 173 on, c = (3 c + it) mod 251.");
        // 3 * 173 is 519: with 0 it is 17, with 99 618 - 502 = 116; 234 would make it 753, which is 0.
        PassScreener s = new PassScreener();
        s.image();
        due("octet(1) by 0", s.octet(1), 17);
        Kit.tell(s, "gap 99 size 0;");
        s.image();
        due("octet(1) by 99", s.octet(1), 116);
        // 3 * 20 + 1 = 61 .. by hand: GAP 3 is 20; 1 61, 10 193, 20 97, 3 43, 5 134, 8 159, 99 74; 0 222, 1 165, 200 193,
        // 0 77, 1 232, 0 194, 0 80.
        Kit.tell(s, TWO);
        s.up(1, false);
        s.image();
        due("octet(15)", s.octet(15), 80);
    }

    private void octets() {
        by(52, "Byte k of the latest image(); NONE when there is none such.");
        PassScreener s = new PassScreener();
        for (int k : new int[] {0, 1, -1, MAX, MIN}) {
            due("octet(" + k + ") ahead of any", s.octet(k), NONE);
        }
        Kit.tell(s, TWO);
        due("octet(0) ahead of any", s.octet(0), NONE);
        s.image();
        due("octet(15) is the last", s.octet(15) != NONE, true);
        for (int k : new int[] {16, 17, 71, 72, -1, MAX, MIN}) {
            due("octet(" + k + ")", s.octet(k), NONE);
        }
        s.gap(50);
        due("octet(0) is of the latest image()", s.octet(0), 3);
        Kit.tell(s, "gap 9 size 1;");
        due("octet(15): another sky is no image", s.octet(15) != NONE, true);
        s.image();
        due("octet(0)", s.octet(0), 9);
        due("octet(2): it is shorter now", s.octet(2), NONE);
        due("octet(15): it is shorter now", s.octet(15), NONE);
    }

    private void on() {
        by(53, "GAP, BODIES are as it tells (within what a text may tell), NOW stays, nothing is KEPT or can be undone");
        PassScreener s = Kit.skyOf("gap 3 size 1;" + shuttle("a", 50, 0, 90) + shuttle("b", 50, 0, 9)
                + Kit.body("c", 100, 120, 7, 3, 2, 5, 1, 99));
        int[] image = imageOf(s);
        String told = s.body(2, 0) + " " + s.spot(2, 4, 0) + " " + s.closest(0, 1, 3) + " " + s.threats(0);
        s.ticks(4);
        s.gap(60);
        s.burn(2, 2, 9);
        s.burn(2, 4, 2);
        s.up(2, false);
        Kit.tape(s, 0, 0);
        s.see(0);
        s.seed(88);
        due("has(12)", s.has(12), 1);
        Kit.tape(s, image);
        due("on()", s.on(), true);
        due("end(1): the tape is gone", s.end(1), false);
        due("has(1)", s.has(1), 3);
        due("has(2)", s.has(2), 3);
        due("has(3): NOW stays", s.has(3), 4);
        due("has(12): nothing is KEPT", s.has(12), 0);
        due("kept(0, 0)", s.kept(0, 0), NONE);
        due("has(6): nothing can be undone", s.has(6), 0);
        due("undo()", s.undo(), false);
        due("has(7): the seed", s.has(7), 88);
        due("has(5): SEEN", s.has(5), 1);
        due("BODIES are as told", told.equals(s.body(2, 0) + " " + s.spot(2, 4, 0) + " " + s.closest(0, 1, 3) + " "
                + s.threats(0)), true);
        due("body(2, 2): TURN", s.body(2, 2), 7);
        due("body(2, 6): NODE", s.body(2, 6), 1);
        due("has(13): SIZE", s.has(13), 1);
        due("letter(2, 0)", s.letter(2, 0), 3);
        Kit.tape(s, image);
        due("on() again, all being so", s.on(), true);
        PassScreener t = Kit.skyOf("gap 0 size 0;" + shuttle("a", 50, 0, 90) + shuttle("b", 50, 0, 9));
        due("sieve(0, 1)", t.sieve(0, 1), 0);
        due("closest(0, 1, 1)", t.closest(0, 1, 1), 0);
        Kit.tape(t, sealed(3, 1, 50, 50, 0, 0, 0, 90, 1, 60, 60, 0, 0, 0, 9));
        due("on()", t.on(), true);
        due("sieve(0, 1) behind on()", t.sieve(0, 1), 1);
        due("closest(0, 1, 1) behind on()", t.closest(0, 1, 1), 100);
        PassScreener full = Kit.skyOf("gap 3 size 0;" + tenBodies());
        int[] ten = imageOf(full);
        full.up(9, false);
        full.burn(8, 2, 1);
        Kit.tape(full, ten);
        due("on() of ten", full.on(), true);
        due("on() of ten: as it was painted", Arrays.equals(imageOf(full), ten), true);
    }

    private void onRange() {
        by(53, "The tape (it goes) is AN IMAGE of this SKY: true");
        PassScreener s = Kit.skyOf(TWO);
        int[][] fine = {{0, 1, 1, 1, 0, 0, 0, 0, 0, 1, 1, 0, 0, 0, 0}, {99, 0, 200, 200, 11, 11, 16, 99, 1, 200, 200, 1, 1,
            16, 99}, {0, 0, 1, 200, 11, 0, 0, 0, 1, 199, 200, 1, 0, 16, 0}};
        for (int[] row : fine) {
            Kit.tape(s, sealed(row));
            due("on() of " + Arrays.toString(row), s.on(), true);
            due("image(): as it was told", Arrays.equals(imageOf(s), sealed(row)), true);
        }
        due("status(5)", s.status(5), 0);
    }

    private void refused(PassScreener s, String why, int... bytes) {
        String before = stateOf(s);
        int refused = s.status(5);
        Kit.tape(s, bytes);
        due("on(): " + why, s.on(), false);
        due("status(5): " + why, s.status(5), refused + 1);
        due("end(1): the tape is gone: " + why, s.end(1), false);
        dueSame("on(): " + why, s, before);
    }

    private void onRefused() {
        by(53, "false, refused (5), all staying, when it is none, or without a sky.");
        PassScreener s = Kit.skyOf("gap 3 size 0;" + shuttle("a", 50, 0, 90) + shuttle("b", 50, 0, 9));
        s.ticks(3);
        Kit.tape(s, 1, 1);
        s.see(1);
        int[] fine = {3, 1, 50, 50, 0, 0, 0, 90, 1, 50, 50, 1, 1, 16, 9};
        int[][] spoilt = {{0, 100}, {0, 255}, {1, 2}, {1, 255}, {2, 0}, {2, 51}, {2, 201}, {3, 49}, {3, 201}, {3, 255},
            {4, 2}, {5, 2}, {6, 17}, {7, 100}, {8, 2}, {9, 0}, {9, 51}, {10, 49}, {10, 201}, {11, 2}, {12, 2}, {13, 17},
            {14, 100}};
        for (int[] one : spoilt) {
            int[] bytes = fine.clone();
            bytes[one[0]] = one[1];
            refused(s, "byte " + one[0] + " is " + one[1], sealed(bytes));
        }
        int[] good = sealed(fine);
        for (int k = 0; k < good.length; k++) {
            int[] bytes = good.clone();
            bytes[k] = bytes[k] == 1 ? 0 : 1;
            refused(s, "byte " + k + " is not what the last one tells", bytes);
        }
        int[] round = good.clone();
        round[15] = good[15] + 251 < 256 ? good[15] + 251 : 255;
        refused(s, "the last byte beyond 250", round);
        refused(s, "empty");
        refused(s, "one byte", 3);
        refused(s, "GAP alone", sealed(3));
        refused(s, "a BODY less", sealed(Arrays.copyOf(fine, 8)));
        refused(s, "a byte less", sealed(Arrays.copyOf(fine, 14)));
        refused(s, "a byte more", sealed(Arrays.copyOf(fine, 16)));
        refused(s, "its last byte twice", Arrays.copyOf(good, 17));
        int[] three = Arrays.copyOf(fine, 22);
        System.arraycopy(fine, 8, three, 15, 7);
        refused(s, "a BODY more", sealed(three));
        refused(s, "as long as can be", new int[1600]);
        Kit.tape(s, good);
        due("on(): a good one", s.on(), true);
    }

    private void onWithoutSky() {
        by(53, "or without a sky.");
        PassScreener s = new PassScreener();
        s.image();
        refused(s, "without a sky", 0, 17);
        Kit.tell(s, "gap 1 size 0");
        refused(s, "behind a fault", 0, 17);
        Kit.tell(s, "gap 1 size 0;");
        Kit.tape(s, 0, 17);
        due("on() without BODIES", s.on(), true);
        due("has(2)", s.has(2), 0);
        Kit.tape(s, sealed(99));
        due("on() without BODIES", s.on(), true);
        due("has(2)", s.has(2), 99);
        refused(s, "GAP 100", sealed(100));
    }

    private void status() {
        by(54, "NONE for others.");
        PassScreener s = new PassScreener();
        for (int what : new int[] {-1, 6, 7, MAX, MIN}) {
            due("status(" + what + ")", s.status(what), NONE);
        }
    }

    private void statuses(PassScreener s, String call, int... due) {
        for (int what = 0; what < 6; what++) {
            due("status(" + what + ") behind " + call, s.status(what), due[what]);
        }
    }

    private void statusOfAll() {
        by(54, "How many were refused: 0 feed(), end(); 1 sky(); 2 up(), ticks(), chance(); 3 burn(), gap(); 4 undo(); "
                + "5 seed(), see(), on().");
        PassScreener s = new PassScreener();
        statuses(s, "none", 0, 0, 0, 0, 0, 0);
        s.end(1);
        statuses(s, "end()", 1, 0, 0, 0, 0, 0);
        for (int k = 0; k < 81; k++) {
            s.feed(0, 0, 0, 0, 0);
        }
        statuses(s, "feed()", 2, 0, 0, 0, 0, 0);
        s.sky();
        statuses(s, "sky()", 2, 1, 0, 0, 0, 0);
        s.up(0, true);
        statuses(s, "up()", 2, 1, 1, 0, 0, 0);
        s.ticks(1);
        statuses(s, "ticks()", 2, 1, 2, 0, 0, 0);
        s.chance(1);
        statuses(s, "chance()", 2, 1, 3, 0, 0, 0);
        s.burn(0, 0, 1);
        statuses(s, "burn()", 2, 1, 3, 1, 0, 0);
        s.gap(1);
        statuses(s, "gap()", 2, 1, 3, 2, 0, 0);
        s.undo();
        statuses(s, "undo()", 2, 1, 3, 2, 1, 0);
        s.seed(-1);
        statuses(s, "seed()", 2, 1, 3, 2, 1, 1);
        s.see(0);
        statuses(s, "see()", 2, 1, 3, 2, 1, 2);
        s.on();
        statuses(s, "on()", 2, 1, 3, 2, 1, 3);
        s.named();
        s.fits(0);
        s.tells(9);
        s.stays(-1);
        s.tries(0, 0, 1);
        s.octet(99);
        s.box(0, 1, 0, 0);
        statuses(s, "questions", 2, 1, 3, 2, 1, 3);
        Kit.tell(s, TWO);
        s.gap(4);
        s.undo();
        s.seed(3);
        statuses(s, "calls that are not refused", 2, 1, 3, 2, 1, 3);
    }
}
