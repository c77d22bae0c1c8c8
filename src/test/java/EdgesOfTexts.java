/** Edges of promises 1 to 9: the tape, the text of a sky, what was told. */
final class EdgesOfTexts extends Edge {
    private static final String GAP = "gap 1 size 2;";
    private static final String REST = " low 5 high 9 turn 4 phase 1 lift 2 tilt 3 node 2 fuel 7;";
    private static final String ONE = GAP + "body a" + REST;

    private EdgesOfTexts() {
    }

    public static void main(String[] args) {
        EdgesOfTexts edges = new EdgesOfTexts();
        edges.newObject();
        edges.feedAndEnd();
        edges.gapAndSize();
        edges.numbersOfBodies();
        edges.namesAndWords();
        edges.blanks();
        edges.wholeWords();
        edges.endsTooSoon();
        edges.firstFault();
        edges.longTexts();
        edges.skies();
        edges.skyBehindSky();
        edges.faults();
        edges.has();
        edges.letters();
        edges.named();
        edges.bodies();
        edges.close(args);
    }

    private void fault(String text, int kind, int place) {
        PassScreener s = new PassScreener();
        due("sky() of <" + text + ">", Kit.tell(s, text), NONE);
        due("fault(0) of <" + text + ">", s.fault(0), kind);
        due("fault(1) of <" + text + ">", s.fault(1), place);
    }

    private void fine(String text, int statements) {
        PassScreener s = new PassScreener();
        due("sky() of <" + text + ">", Kit.tell(s, text), statements);
        due("fault(0) of <" + text + ">", s.fault(0), 0);
        due("fault(1) of <" + text + ">", s.fault(1), NONE);
    }

    private void newObject() {
        PassScreener s = new PassScreener();
        by(1, "No sky, no bodies; the seed is 1.");
        due("has(0)", s.has(0), 0);
        due("has(7)", s.has(7), 1);
        due("stays(0), without a sky", s.stays(0), NONE);
        due("body(0, 0)", s.body(0, 0), NONE);
        due("end(0): the tape is empty", s.end(0), true);
        due("end(1): the tape is empty", s.end(1), false);
        PassScreener t = new PassScreener();
        t.seed(9);
        due("has(7) of an object made earlier", s.has(7), 1);
    }

    private void feedAndEnd() {
        PassScreener s = new PassScreener();
        by(2, "Twenty bytes come behind those on the tape, of each number the highest first: how many there are");
        due("feed", s.feed(0x00ff8003, MIN, MAX, -1, 0), 20);
        due("feed", s.feed(0, 0, 0, 0, 0), 40);
        s.end(2);
        // 0x00, 0xff: the lowest byte of the first number is not the first of the tape.
        Kit.tell(s, "gap 1 size 2;" + shuttle("a", 5, 0, 0));
        s.feed(0x00000100, 0, 0, 0, 0);
        s.end(4);
        due("see(0) of 00 00 01 00", s.see(0), 2);
        due("fits(-1): at (5,0) at two ticks running", s.fits(NONE), 0);
        s.feed(0x00000001, 0, 0, 0, 0);
        s.end(4);
        due("see(0) of 00 00 00 01", s.see(0), 2);
        s.feed(0xff000000, 0, 0, 0, 0);
        s.end(2);
        due("see(0) of ff 00: no byte is below 0", s.see(0), 1);
        due("fits(0): 255 ticks behind", s.fits(0), 1);
        by(2, "NONE, refused (0), if there would be more than 1600.");
        PassScreener t = new PassScreener();
        for (int k = 1; k <= 79; k++) {
            t.feed(k, k, k, k, k);
        }
        due("feed: 1600", t.feed(0, 0, 0, 0, 0), 1600);
        due("feed: 1620", t.feed(0, 0, 0, 0, 0), NONE);
        due("status(0)", t.status(0), 1);
        due("end(1600): all are there still", t.end(1600), true);
        due("end(1581)", t.end(1581), true);
        due("feed: 1601", t.feed(0, 0, 0, 0, 0), NONE);
        due("end(1580)", t.end(1580), true);
        due("feed: 1600 again", t.feed(0, 0, 0, 0, 0), 1600);
        due("status(0)", t.status(0), 2);
        by(3, "The tape has its first n bytes alone: true");
        due("end(1599)", t.end(1599), true);
        due("end(1600): one is gone", t.end(1600), false);
        due("end(0)", t.end(0), true);
        due("end(0) of an empty tape", t.end(0), true);
        due("feed behind none", t.feed(0, 0, 0, 0, 0), 20);
        by(3, "false, refused (0), if it has not so many, or n is below 0.");
        int refused = t.status(0);
        for (int n : new int[] {21, 1600, 1601, MAX, -1, MIN}) {
            due("end(" + n + ")", t.end(n), false);
        }
        due("status(0)", t.status(0), refused + 6);
        due("feed: the tape stayed", t.feed(0, 0, 0, 0, 0), 40);
    }

    private void gapAndSize() {
        by(0, "gap N size N (0 .. 99; 0 .. 20; the first STATEMENT, and it alone)");
        fine("gap 0 size 0;", 1);
        fine("gap 99 size 20;", 1);
        fault("gap 100 size 0;", 2, 4);
        fault("gap 999 size 0;", 2, 4);
        fault("gap 0 size 21;", 2, 11);
        fault("body a" + REST, 1, 0);
        fault(GAP + GAP, 1, 13);
        fault(ONE + GAP, 1, ONE.length());
        fault("size 0 gap 0;", 1, 0);
        fault("gap 1;", 1, 5);
    }

    private void number(String word, String value, int kind) {
        int at = ONE.indexOf(" " + word + " ") + word.length() + 2;
        int end = at + 1;
        String text = ONE.substring(0, at) + value + ONE.substring(end);
        if (kind == 0) {
            fine(text, 2);
        } else {
            fault(text, kind, at);
        }
    }

    private void numbersOfBodies() {
        by(0, "LOW 1 .. 200");
        number("low", "0", 2);
        number("low", "000", 2);
        number("low", "1", 0);
        number("low", "201", 2);
        fine(GAP + Kit.body("a", 200, 200, 2, 0, 0, 0, 0, 0), 2);
        by(0, "HIGH LOW .. 200");
        number("high", "4", 2);
        number("high", "5", 0);
        number("high", "200", 0);
        number("high", "201", 2);
        by(0, "TURN 2 .. 48 TICKS");
        number("turn", "0", 2);
        number("turn", "1", 2);
        number("turn", "3", 0);
        number("turn", "48", 0);
        number("turn", "49", 2);
        fine(GAP + Kit.body("a", 1, 1, 2, 1, 1, 0, 0, 0), 2);
        by(0, "PHASE, LIFT 0 .. TURN less 1");
        number("phase", "0", 0);
        number("phase", "3", 0);
        number("phase", "4", 2);
        number("lift", "0", 0);
        number("lift", "3", 0);
        number("lift", "4", 2);
        fault(GAP + Kit.body("a", 1, 1, 2, 2, 0, 0, 0, 0), 2, GAP.length() + 33);
        fine(GAP + Kit.body("a", 1, 1, 48, 47, 47, 0, 0, 0), 2);
        fault(GAP + Kit.body("a", 1, 1, 48, 48, 47, 0, 0, 0), 2, GAP.length() + 34);
        by(0, "TILT 0 .. 16; NODE 0 .. 3; FUEL 0 .. 99");
        number("tilt", "0", 0);
        number("tilt", "16", 0);
        number("tilt", "17", 2);
        number("node", "0", 0);
        number("node", "3", 0);
        number("node", "4", 2);
        number("fuel", "0", 0);
        number("fuel", "99", 0);
        number("fuel", "100", 2);
        by(0, "10 BODIES, numbered from 0 on as told");
        String ten = GAP + tenBodies();
        fine(ten, 11);
        PassScreener s = Kit.skyOf(ten);
        for (int body = 0; body < 10; body++) {
            due("letter(" + body + ", 0)", s.letter(body, 0), body + 1);
            due("body(" + body + ", 0)", s.body(body, 0), 10 + 15 * body);
        }
        by(0, "5 an 11th body, at that word");
        fault(ten + "body k" + REST, 5, ten.length());
        fault(ten + " \nbody", 5, ten.length() + 2);
        fault(ten + "body a" + REST, 5, ten.length());
        fault(ten + "bodies", 1, ten.length());
        by(0, "N: 1 to 3 digits");
        number("low", "005", 0);
        number("low", "05", 0);
        fault("gap  size 2;", 1, 5);
        by(0, "where a number is asked, a 4th digit at itself");
        fault("gap 0005 size 2;", 1, 7);
        fault("gap 9999999 size 2;", 1, 7);
        fault("gap 0 size 0020;", 1, 14);
        by(0, "2 a number that can't be, at it");
        fault("gap 100 size 21;", 2, 4);
        fault("gap  \n 100;", 2, 7);
    }

    private void namesAndWords() {
        int name = GAP.length() + 5;
        by(0, "NAMES: 1 to 6 letters, all unlike, no OWN WORD");
        fine(GAP + "body z" + REST, 2);
        fine(GAP + "body zzzzzz" + REST, 2);
        fine(GAP + "body a" + REST + "body aa" + REST + "body aaa" + REST, 4);
        fine(GAP + "body gapp" + REST + "body lo" + REST + "body fuels" + REST, 4);
        fault(GAP + "body " + REST, 1, name + 1);
        fault(GAP + "body 5", 1, name);
        fault(GAP + "body a5", 1, name + 1);
        fault(GAP + "body aB", 1, name + 1);
        fault(GAP + "body `", 1, name);
        fault(GAP + "body {", 1, name);
        by(0, "where a NAME is asked, an OWN WORD so, a 7th letter at itself");
        for (String own : new String[] {"gap", "size", "body", "low", "high", "turn", "phase", "lift", "tilt", "node",
            "fuel"}) {
            fault(GAP + "body " + own + REST, 1, name);
        }
        fault(GAP + "body abcdefg" + REST, 1, name + 6);
        fault(GAP + "body abcdefghi" + REST, 1, name + 6);
        fault(GAP + "body phaseab" + REST, 1, name + 6);
        by(0, "3 a NAME that is there already, at it");
        fault(ONE + "body a", 3, ONE.length() + 5);
        fault(ONE + "body\n\na" + REST, 3, ONE.length() + 6);
        fault(GAP + "body abcdef" + REST + "body x" + REST + "body abcdef", 3, GAP.length() + 11 + REST.length()
                + 6 + REST.length() + 5);
    }

    private void blanks() {
        by(0, "Blanks (10, 32) are where one likes (words and numbers side by side need one)");
        fine("gap 1 size 2;body a low 5 high 9 turn 4 phase 1 lift 2 tilt 3 node 2 fuel 7;", 2);
        fine(" \n gap \n 1 \n size \n 2 \n ; \n body \n a \n low\n5\nhigh\n9\nturn\n4\nphase\n1\nlift\n2\ntilt\n3\nnode\n2\n"
                + "fuel\n7\n;\n", 2);
        fault("gap1 size 2;", 1, 3);
        fault("gap 1size 2;", 1, 5);
        fault("gapsize", 1, 0);
        fault(GAP + "bodya" + REST, 1, GAP.length());
        fault(GAP + "body a low5", 1, GAP.length() + 10);
        for (int blank : new int[] {0, 9, 11, 13, 31, 33, 127, 128, 160, 255}) {
            fault("gap" + (char) blank + "1 size 2;", 1, 3);
            fault((char) blank + "gap 1 size 2;", 1, 0);
            fault("gap 1 size 2;" + (char) blank, 1, 13);
        }
    }

    private void wholeWords() {
        by(0, "1 the first byte with which no such text goes on (words and numbers whole, at their first byte;");
        fault("gaq 1 size 2;", 1, 0);
        fault("gapgap 1 size 2;", 1, 0);
        fault("gap 1 siza 2;", 1, 6);
        fault("gap 1 size 2 size", 1, 13);
        fault("gap 1 size 2,", 1, 12);
        fault("gap size 2;", 1, 4);
        fault("gap 1 2;", 1, 6);
        fault("gap 1 size size;", 1, 11);
        fault(GAP + "body a low 5 low 5", 1, GAP.length() + 13);
        fault(GAP + "body a high 9", 1, GAP.length() + 7);
        fault(GAP + ";", 1, GAP.length());
        fault(ONE + ";", 1, ONE.length());
        fault(ONE + "a", 1, ONE.length());
        fault(ONE + "5", 1, ONE.length());
    }

    /** Of each text that stops ahead of its end: at its length, or at an own word that is not whole. */
    private void endsTooSoon() {
        by(0, "at the text's length, if it ends too soon");
        String text = "gap 1 size 2; body pq low 5 high 9 turn 4 phase 1 lift 2 tilt 3 node 2 fuel 7;";
        for (int length = 0; length < text.length(); length++) {
            if (length == 13 || length == 14) {
                fine(text.substring(0, length), 1);
                continue;
            }
            boolean inWord = length > 0 && isLetter(text.charAt(length - 1)) && isLetter(text.charAt(length));
            int place = length;
            while (inWord && place > 0 && isLetter(text.charAt(place - 1))) {
                place--;
            }
            boolean isName = text.startsWith("p", place) && !text.startsWith("ph", place);
            fault(text.substring(0, length), 1, isName ? length : place);
        }
    }

    private static boolean isLetter(char sign) {
        return sign >= 'a' && sign <= 'z';
    }

    private void firstFault() {
        by(0, "FAULTS, the first along the text");
        fault("gap 100 siz", 2, 4);
        fault("gap 1 size 21 body", 2, 11);
        fault(ONE + "body a low 0", 3, ONE.length() + 5);
        fault(ONE + "body b low 0 high 0", 2, ONE.length() + 11);
        fault(ONE + "body b low 9 high 8 turn 1", 2, ONE.length() + 18);
        fault(ONE + "body b low 9 high 9 turn 49 phase 99", 2, ONE.length() + 25);
        fault("gap 1 size 2;body a low 5 high 4;" + GAP, 2, 31);
    }

    private void longTexts() {
        by(2, "if there would be more than 1600.");
        StringBuilder text = new StringBuilder(ONE);
        while (text.length() < 1600) {
            text.append(text.length() % 2 == 0 ? ' ' : '\n');
        }
        fine(text.toString(), 2);
        fault(text.substring(0, 1599) + "x", 1, 1599);
        fault(text.substring(0, 1596) + "body", 1, 1600);
        fault(" ".repeat(1600), 1, 1600);
        fault("a".repeat(1600), 1, 0);
        fault("gap " + "1".repeat(1596), 1, 7);
        fault(GAP + "body " + "a".repeat(1582), 1, 24);
    }

    private PassScreener used() {
        PassScreener s = Kit.skyOf("gap 3 size 0;" + shuttle("a", 5, 0, 9) + shuttle("b", 5, 0, 9)
                + shuttle("c", 9, 0, 9));
        s.seed(77);
        s.ticks(3);
        Kit.tape(s, 0, 0);
        s.see(2);
        s.image();
        return s;
    }

    private void skies() {
        by(4, "The tape (it goes) is THE SKY: how many STATEMENTS");
        PassScreener s = new PassScreener();
        due("sky() of the shortest", Kit.tell(s, "gap 1 size 2;"), 1);
        due("end(1): the tape is gone", s.end(1), false);
        due("sky() of eleven", Kit.tell(s, GAP + tenBodies()), 11);
        by(4, "NONE, refused (1), with a FAULT (all stays;");
        PassScreener t = used();
        String before = stateOf(t);
        due("KEPT, SEEN, ACTS are there", t.has(12) * t.has(5) * t.has(6), 1);
        String[] texts = {"", "gap 4 size 1", "gap 4 size 1;body x", "gap 4 size 1;" + shuttle("x", 7, 1, 3) + "body x"};
        for (String text : texts) {
            due("sky() of <" + text + ">", Kit.tell(t, text), NONE);
            dueSame("sky() of <" + text + ">", t, before);
            due("end(1): the tape is gone", t.end(1), false);
            due("next(0)", t.next(0), NONE);
            due("closest(0, 2, 1)", t.closest(0, 2, 1), 16);
        }
        due("status(1)", t.status(1), texts.length);
        due("undo()", t.undo(), true);
        due("has(1)", t.has(1), 3);
        by(4, "one without a STATEMENT has FAULT 1 at its length)");
        fault("", 1, 0);
        fault(" ", 1, 1);
        fault("\n\n \n", 1, 4);
        by(4, "Without one all is as told, NOW is 0, nothing is SEEN, KEPT, or can be undone; the seed stays.");
        PassScreener u = used();
        u.up(2, false);
        due("sky()", Kit.tell(u, "gap 2 size 1;" + shuttle("x", 7, 1, 3) + shuttle("y", 9, 1, 4)), 3);
        int[] has = {2, 2, 2, 0, 1, 0, 0, 77, 0, 0, 0, 1, 0, 1, 1};
        for (int what = 0; what < has.length; what++) {
            due("has(" + what + ")", u.has(what), has[what]);
        }
        due("undo()", u.undo(), false);
        due("fits(-1)", u.fits(NONE), NONE);
        due("kept(0, 0)", u.kept(0, 0), NONE);
        due("body(2, 0)", u.body(2, 0), NONE);
        due("octet(0): the latest image() is told still", u.octet(0), 3);
        due("status(4)", u.status(4), 1);
    }

    /** What was asked of a sky must not be answered of the next one, which has as many BODIES. */
    private void skyBehindSky() {
        by(4, "Without one all is as told");
        String[] skies = {"gap 2 size 0;" + shuttle("a", 10, 0, 9) + shuttle("b", 12, 0, 0),
            "gap 2 size 0;" + shuttle("a", 10, 0, 9) + shuttle("b", 19, 0, 0),
            "gap 8 size 0;" + shuttle("a", 10, 0, 0) + shuttle("b", 18, 0, 9)};
        int[][] rows = {{4, 1, 0, 0, 1, 0, NONE, 0}, {81, 0, 1, NONE, 0, NONE, NONE, NONE}, {64, 1, 0, 0, 1, NONE, 0, 0}};
        PassScreener s = new PassScreener();
        for (int k = 0; k < 6; k++) {
            int[] row = rows[k % 3];
            Kit.tell(s, skies[k % 3]);
            due("closest(0, 1, 1) of sky " + k, s.closest(0, 1, 1), row[0]);
            due("has(4) of sky " + k, s.has(4), row[1]);
            due("sieve(0, 1) of sky " + k, s.sieve(0, 1), row[2]);
            due("next(0) of sky " + k, s.next(0), row[3]);
            due("threats(1) of sky " + k, s.threats(1), row[4]);
            due("clears(0, 0) of sky " + k, s.clears(0, 0), row[5]);
            due("clears(1, 0) of sky " + k, s.clears(1, 0), row[6]);
            due("clearing(1) of sky " + k, s.clearing(1), row[7]);
        }
    }

    private void faults() {
        PassScreener s = new PassScreener();
        by(5, "its FAULT (what 0; 0 without, and ahead of any), its place (1; NONE without).");
        due("fault(0) ahead of any", s.fault(0), 0);
        due("fault(1) ahead of any", s.fault(1), NONE);
        Kit.tell(s, "gap 100");
        due("fault(0)", s.fault(0), 2);
        due("fault(1)", s.fault(1), 4);
        Kit.tape(s, "a");
        s.named();
        due("fault(0) of the latest sky()", s.fault(0), 2);
        Kit.tell(s, ONE);
        due("fault(0) without", s.fault(0), 0);
        due("fault(1) without", s.fault(1), NONE);
        s.sky();
        due("fault(0) of no byte", s.fault(0), 1);
        due("fault(1) of no byte", s.fault(1), 0);
        by(5, "NONE for another what.");
        for (int what : new int[] {2, -1, MAX, MIN}) {
            due("fault(" + what + ")", s.fault(what), NONE);
        }
    }

    private void has() {
        PassScreener s = new PassScreener();
        by(6, "Without a sky all but the seed are 0.");
        s.seed(MAX);
        for (int what = 0; what <= 14; what++) {
            due("has(" + what + ")", s.has(what), what == 7 ? MAX : 0);
        }
        Kit.tell(s, "gap 100");
        for (int what = 0; what <= 14; what++) {
            due("has(" + what + ") behind a fault", s.has(what), what == 7 ? MAX : 0);
        }
        by(6, "NONE for others.");
        for (int what : new int[] {-1, 15, 16, MAX, MIN}) {
            due("has(" + what + ") without a sky", s.has(what), NONE);
        }
        Kit.tell(s, ONE);
        for (int what : new int[] {-1, 15, 16, MAX, MIN}) {
            due("has(" + what + ")", s.has(what), NONE);
        }
        by(6, "8, 9, 10 pairs (UP or not) that are sieved by 1, 2, 3, 11 by none");
        PassScreener t = Kit.skyOf("gap 1 size 0;" + tenBodies());
        due("has(8): all of ten", t.has(8), 45);
        due("has(11)", t.has(11), 0);
        for (int body = 0; body < 10; body++) {
            t.up(body, false);
        }
        due("has(8): all are down", t.has(8), 45);
        due("has(1)", t.has(1), 0);
        due("has(14)", t.has(14), 0);
        t.gap(99);
        due("has(11): none is far enough", t.has(11), 45);
        due("has(8)", t.has(8), 0);
        due("has(4): all are down", t.has(4), 0);
        for (int body = 0; body < 10; body++) {
            t.up(body, true);
        }
        // 99 goes over six steps of 15: 9 + 8 + 7 + 6 + 5 + 4 pairs.
        due("has(4): all are UP", t.has(4), 39);
        due("has(14)", t.has(14), 1);
        by(6, "6 ACTS that can be undone");
        due("has(6): 20 of 21", t.has(6), 20);
    }

    private void letters() {
        PassScreener s = Kit.skyOf(GAP + "body azbycx" + REST + "body z" + REST);
        by(7, "Letter k (0 .. 5) of the NAME of a BODY: 1 .. 26; 0 behind it");
        int[] letters = {1, 26, 2, 25, 3, 24};
        for (int k = 0; k < 6; k++) {
            due("letter(0, " + k + ")", s.letter(0, k), letters[k]);
            due("letter(1, " + k + ")", s.letter(1, k), k == 0 ? 26 : 0);
        }
        by(7, "NONE when there is none such.");
        for (int k : new int[] {-1, 6, MAX, MIN}) {
            due("letter(0, " + k + ")", s.letter(0, k), NONE);
            due("letter(1, " + k + ")", s.letter(1, k), NONE);
        }
        for (int body : new int[] {-1, 2, 10, MAX, MIN}) {
            due("letter(" + body + ", 0)", s.letter(body, 0), NONE);
        }
    }

    private void named() {
        PassScreener s = Kit.skyOf(GAP + "body abcdef" + REST + "body a" + REST);
        by(8, "The tape (it goes) is a NAME, byte by byte, nothing else: the BODY of that NAME");
        String[] names = {"abcdef", "a"};
        for (int body = 0; body < 2; body++) {
            Kit.tape(s, names[body]);
            due("named() of <" + names[body] + ">", s.named(), body);
            due("end(1): the tape is gone", s.end(1), false);
        }
        by(8, "NONE when there is none such.");
        String[] others = {"", "b", "abcde", "abcdefg", "A", "a ", " a", "a\n", "a;", "a" + (char) 0, "aa", "body", "gap",
            "a".repeat(1600), " "};
        for (String other : others) {
            Kit.tape(s, other);
            due("named() of <" + other + ">", s.named(), NONE);
            due("end(1): the tape is gone", s.end(1), false);
        }
        due("status(5): no refusal", s.status(5), 0);
        // Every 7th and 8th letter behind a NAME of six, and every byte that is no letter, by itself and behind one.
        PassScreener u = Kit.skyOf(GAP + "body abcdef" + REST + "body ad" + REST + "body z" + REST);
        for (char more = 'a'; more <= 'z'; more++) {
            Kit.tape(u, "abcdef" + more);
            due("named() of <abcdef" + more + ">", u.named(), NONE);
            Kit.tape(u, "abcdefd" + more);
            due("named() of <abcdefd" + more + ">", u.named(), NONE);
        }
        for (int sign = 0; sign < 256; sign++) {
            Kit.tape(u, sign);
            due("named() of byte " + sign, u.named(), sign == 'z' ? 2 : NONE);
            Kit.tape(u, 'a', sign);
            due("named() of a and byte " + sign, u.named(), sign == 'd' ? 1 : NONE);
        }
        Kit.tell(u, ONE);
        for (String gone : new String[] {"abcdef", "ad", "z"}) {
            Kit.tape(u, gone);
            due("named() of <" + gone + ">, which the sky ahead had", u.named(), NONE);
        }
        Kit.tell(u, GAP + tenBodies());
        Kit.tape(u, "j");
        due("named() of the last of ten", u.named(), 9);
        Kit.tape(u, "k");
        due("named() of none of ten", u.named(), NONE);
        PassScreener t = new PassScreener();
        Kit.tape(t, "a");
        due("named() without a sky", t.named(), NONE);
        due("end(1): the tape is gone", t.end(1), false);
    }

    private void bodies() {
        PassScreener s = Kit.skyOf(GAP + Kit.body("a", 1, 1, 2, 0, 0, 0, 0, 0)
                + Kit.body("b", 200, 200, 48, 47, 47, 16, 3, 99));
        by(9, "0 LOW, 1 HIGH, 2 TURN, 3 PHASE, 4 LIFT, 5 TILT, 6 NODE, 7 FUEL, 8 whether UP.");
        int[] least = {1, 1, 2, 0, 0, 0, 0, 0, 1};
        int[] most = {200, 200, 48, 47, 47, 16, 3, 99, 1};
        for (int what = 0; what < 9; what++) {
            due("body(0, " + what + ")", s.body(0, what), least[what]);
            due("body(1, " + what + ")", s.body(1, what), most[what]);
        }
        s.up(1, false);
        due("body(1, 8): down", s.body(1, 8), 0);
        by(0, "A BODY is UP or down (all are UP at first).");
        PassScreener ten = Kit.skyOf(GAP + tenBodies());
        for (int body = 0; body < 10; body++) {
            due("body(" + body + ", 8)", ten.body(body, 8), 1);
        }
        by(9, "NONE when there is none such, or for others.");
        for (int other : new int[] {-1, 9, 10, MAX, MIN}) {
            due("body(0, " + other + ")", s.body(0, other), NONE);
        }
        for (int body : new int[] {-1, 2, 9, 10, MAX, MIN}) {
            due("body(" + body + ", 0)", s.body(body, 0), NONE);
        }
    }
}
