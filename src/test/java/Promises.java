/**
 * Each promise of the document by small skies whose answers can be worked out by hand: ordinary calls, the edges
 * that the document names, wrong calls. Texts with faults (promises 4 and 5) are in Faults.
 */
final class Promises {
    private static final int NONE = PassScreener.NONE;
    private static final int NOTHING = PassScreener.NOTHING;
    private static final int MAX = Integer.MAX_VALUE;
    private static final int MIN = Integer.MIN_VALUE;

    /**
     * a: (4,0) (0,4) (-4,0) (0,-4); b: a step ahead on the same ring; c: (4,0,0) (0,0,4) (-4,0,0) (0,0,-4);
     * d: far out, (-40,0) (0,-40) (40,0) (0,40). a and b, b and c are always 32 apart, a and c 0, 32, 0, 32.
     */
    private static final String FOUR = "gap 3 size 0;" + Kit.body("a", 4, 4, 4, 0, 0, 0, 0, 9)
            + Kit.body("bb", 4, 4, 4, 1, 0, 0, 0, 9) + Kit.body("abcxyz", 4, 4, 4, 0, 0, 16, 0, 9)
            + Kit.body("d", 40, 40, 4, 1, 0, 0, 1, 15);

    /** In a cycle of 12: a by turns of 4, the other (-1,3) (-2,-2) (4,0): 34 40 64 50 40 32 18 8 0 2 8 32 apart. */
    private static final String TWO = "gap 3 size 0;" + Kit.body("a", 4, 4, 4, 0, 0, 0, 0, 9)
            + Kit.body("i", 4, 4, 3, 1, 0, 0, 0, 0);
    private static final int[] TWO_FAR = {34, 40, 64, 50, 40, 32, 18, 8, 0, 2, 8, 32};

    private final Kit kit = new Kit();

    private Promises() {
    }

    public static void main(String[] args) {
        Promises promises = new Promises();
        promises.newObject();
        promises.tape();
        promises.sky();
        promises.has();
        promises.names();
        promises.bodies();
        promises.places();
        promises.farAndLean();
        promises.sieves();
        promises.closest();
        promises.boxes();
        promises.passes();
        promises.list();
        promises.next();
        promises.threatsAndGroups();
        promises.chances();
        promises.remains();
        promises.crowds();
        promises.kept();
        promises.doom();
        promises.odds();
        promises.saves();
        promises.tries();
        promises.clears();
        promises.searches();
        promises.clearing();
        promises.twice();
        promises.room();
        promises.seen();
        promises.burn();
        promises.up();
        promises.gap();
        promises.ticks();
        promises.chance();
        promises.undo();
        promises.seed();
        promises.images();
        promises.status();
        promises.kit.close();
    }

    private void due(String what, long got, long want) {
        kit.due(what, got, want);
    }

    private void due(String what, boolean got, boolean want) {
        kit.due(what, got, want);
    }

    /** Promise 1, and what calls answer without a sky. */
    private void newObject() {
        PassScreener s = new PassScreener();
        for (int what = 0; what <= 14; what++) {
            due("1: has(" + what + ")", s.has(what), what == 7 ? 1 : 0);
        }
        due("1: fault(0)", s.fault(0), 0);
        due("1: crowd(5)", s.crowd(5), 0);
        due("1: crowd(-1)", s.crowd(-1), NONE);
        due("1: stays(0)", s.stays(0), NONE);
        due("1: spot", s.spot(0, 0, 0), NOTHING);
        due("1: box", s.box(0, 0, 0, 0), NOTHING);
        due("1: lean", s.lean(0, 1, 0), NOTHING);
        due("1: octet(0)", s.octet(0), NONE);
        due("1: image()", s.image(), 2);
        due("1: octet(0)", s.octet(0), 0);
        due("1: octet(1)", s.octet(1), 17);
        due("1: gap(1)", s.gap(1), false);
        due("1: ticks(1)", s.ticks(1), NONE);
        due("1: chance(1)", s.chance(1), NONE);
        due("1: undo()", s.undo(), false);
        Kit.tape(s, 0, 17);
        due("1: on()", s.on(), false);
    }

    /** Promises 2 and 3. */
    private void tape() {
        PassScreener s = new PassScreener();
        for (int k = 1; k <= 80; k++) {
            due("2: feed", s.feed(k, 0, -1, MAX, MIN), 20 * k);
        }
        due("2: an 81st feed", s.feed(0, 0, 0, 0, 0), NONE);
        due("3: end(1601)", s.end(1601), false);
        due("3: end(-1)", s.end(-1), false);
        due("3: end(MIN)", s.end(MIN), false);
        due("3: end(1600)", s.end(1600), true);
        due("3: end(1581)", s.end(1581), true);
        due("2: feed behind 1581", s.feed(0, 0, 0, 0, 0), NONE);
        due("3: end(1580)", s.end(1580), true);
        due("2: feed behind 1580", s.feed(0, 0, 0, 0, 0), 1600);
        due("3: end(0)", s.end(0), true);
        due("3: end(1)", s.end(1), false);
        due("54: status(0)", s.status(0), 6);
        due("2: feed", s.feed(0x67617020, 0x31207369, 0x7a652032, 0x3b7f7f7f, -1), 20);
        due("3: end(13)", s.end(13), true);
        due("2: highest bytes first", s.sky(), 1);
        due("2: GAP of it", s.has(2), 1);
        due("2: SIZE of it", s.has(13), 2);
    }

    /** Promise 4, but for faults. */
    private void sky() {
        PassScreener s = new PassScreener();
        s.seed(77);
        due("4: sky()", Kit.tell(s, FOUR), 5);
        due("4: the tape is gone", s.sky(), NONE);
        due("4: all stays with a fault", s.has(0), 4);
        s.ticks(3);
        Kit.tape(s, 0, 0);
        s.see(0);
        due("4: crashed", s.has(12), 1);
        due("4: seen", s.has(5), 1);
        due("4: undoable", s.has(6), 1);
        due("4: a text with a fault", Kit.tell(s, "gap 1 size 2; body x low 0"), NONE);
        due("4: NOW stays with a fault", s.has(3), 3);
        due("4: KEPT stays with a fault", s.has(12), 1);
        due("4: SEEN stays with a fault", s.has(5), 1);
        due("4: GAP stays with a fault", s.has(2), 3);
        due("4: sky() again", Kit.tell(s, TWO), 3);
        due("4: BODIES", s.has(0), 2);
        due("4: all UP", s.has(1), 2);
        due("4: NOW", s.has(3), 0);
        due("4: SEEN", s.has(5), 0);
        due("4: fits", s.fits(NONE), NONE);
        due("4: undoable", s.has(6), 0);
        due("4: KEPT", s.has(12), 0);
        due("4: the seed stays", s.has(7), 77);
        due("4: closest of the new ones", s.closest(0, 1, 0), 8);
        due("4: a gap alone", Kit.tell(s, "gap 9 size 1;"), 1);
        due("4: no BODIES", s.has(0), 0);
        due("33: stays(5) without BODIES", s.stays(5), 0);
        due("47: ticks(5) without BODIES", s.ticks(5), 5);
        due("48: chance(1) without BODIES", s.chance(1), NONE);
    }

    /** Promise 6. */
    private void has() {
        PassScreener s = Kit.skyOf(FOUR);
        int[] first = {4, 4, 3, 0, 1, 0, 0, 1, 3, 0, 0, 3, 0, 0, 3};
        for (int what = 0; what < first.length; what++) {
            due("6: has(" + what + ")", s.has(what), first[what]);
        }
        due("6: has(15)", s.has(15), NONE);
        due("6: has(-1)", s.has(-1), NONE);
        due("6: has(MAX)", s.has(MAX), NONE);
        s.gap(2);
        due("6: by TIMES", s.has(10), 1);
        due("6: by none", s.has(11), 2);
        due("6: ACTS", s.has(6), 1);
        s.up(0, false);
        due("6: UP", s.has(1), 3);
        due("6: NEAR", s.has(4), 0);
        due("6: sieved, UP or not", s.has(8), 3);
        due("6: GROUPS of those UP", s.has(14), 3);
        s.gap(6);
        due("6: NEAR, b and c", s.has(4), 1);
        due("6: GROUPS, b and c", s.has(14), 2);
    }

    /** Promises 7 and 8. */
    private void names() {
        PassScreener s = Kit.skyOf(FOUR);
        int[] letters = {1, 2, 3, 24, 25, 26};
        for (int k = 0; k < 6; k++) {
            due("7: letter(2, " + k + ")", s.letter(2, k), letters[k]);
            due("7: letter(0, " + k + ")", s.letter(0, k), k == 0 ? 1 : 0);
        }
        due("7: letter(2, 6)", s.letter(2, 6), NONE);
        due("7: letter(2, -1)", s.letter(2, -1), NONE);
        due("7: letter(4, 0)", s.letter(4, 0), NONE);
        due("7: letter(-1, 0)", s.letter(-1, 0), NONE);
        String[] texts = {"a", "bb", "abcxyz", "d", "", "b", "abcxy", "abcxyzz", "a ", " a", "A", "a\n", "gap", "a;"};
        int[] bodies = {0, 1, 2, 3, NONE, NONE, NONE, NONE, NONE, NONE, NONE, NONE, NONE, NONE};
        for (int k = 0; k < texts.length; k++) {
            Kit.tape(s, texts[k]);
            due("8: named() <" + texts[k] + ">", s.named(), bodies[k]);
            due("8: the tape is gone", s.end(1), false);
        }
    }

    /** Promise 9. */
    private void bodies() {
        PassScreener s = Kit.skyOf("gap 1 size 2;" + Kit.body("x", 1, 200, 48, 47, 46, 16, 3, 99));
        int[] numbers = {1, 200, 48, 47, 46, 16, 3, 99, 1, NONE};
        for (int what = 0; what < numbers.length; what++) {
            due("9: body(0, " + what + ")", s.body(0, what), numbers[what]);
        }
        due("9: body(0, -1)", s.body(0, -1), NONE);
        due("9: body(1, 0)", s.body(1, 0), NONE);
        due("9: body(-1, 0)", s.body(-1, 0), NONE);
        s.up(0, false);
        due("9: down", s.body(0, 8), 0);
    }

    private void place(PassScreener s, int body, int tick, int... due) {
        for (int what = 0; what < due.length; what++) {
            due("10: spot(" + body + ", " + tick + ", " + what + ")", s.spot(body, tick, what), due[what]);
        }
    }

    /** Promise 10. */
    private void places() {
        PassScreener s = Kit.skyOf("gap 1 size 2;" + Kit.body("a", 2, 6, 4, 0, 0, 0, 0, 9)
                + Kit.body("b", 2, 6, 4, 0, 1, 0, 0, 9) + Kit.body("c", 5, 5, 4, 1, 0, 3, 0, 9)
                + Kit.body("d", 5, 5, 4, 1, 0, 3, 1, 9) + Kit.body("e", 5, 5, 4, 1, 0, 3, 2, 9)
                + Kit.body("f", 5, 5, 4, 1, 0, 3, 3, 9) + Kit.body("g", 4, 4, 3, 0, 0, 0, 0, 9)
                + Kit.body("h", 10, 10, 40, 0, 0, 8, 0, 9));
        place(s, 0, 0, 2, 0, 0, 2);
        place(s, 0, 1, 0, 4, 0, 4);
        place(s, 0, 2, -6, 0, 0, 6);
        place(s, 0, 3, 0, -4, 0, 4);
        place(s, 0, 4, 2, 0, 0, 2);
        place(s, 0, 9999, 0, -4, 0, 4);
        place(s, 1, 0, 4, 0, 0, 4);
        place(s, 1, 1, 0, 6, 0, 6);
        place(s, 1, 2, -4, 0, 0, 4);
        place(s, 1, 3, 0, -2, 0, 2);
        // Across it is 5 and -5: cut towards 0 that makes 4 and -4 by a tilt of 3.
        place(s, 2, 0, 0, 4, 0, 5);
        place(s, 2, 1, -5, 0, 0, 5);
        place(s, 2, 2, 0, -4, 0, 5);
        place(s, 2, 3, 5, 0, 0, 5);
        place(s, 3, 0, -4, 0, 0, 5);
        place(s, 3, 1, 0, -5, 0, 5);
        place(s, 4, 0, 0, -4, 0, 5);
        place(s, 4, 1, 5, 0, 0, 5);
        place(s, 5, 0, 4, 0, 0, 5);
        place(s, 5, 1, 0, 5, 0, 5);
        place(s, 6, 1, -1, 3, 0, 4);
        place(s, 6, 2, -2, -2, 0, 4);
        // One step is one height unit of way: 3 along, 7 across, half of it up.
        place(s, 7, 7, 3, 3, 3, 10);
        place(s, 7, 33, 3, -3, -3, 10);
        due("10: tick 10000", s.spot(0, 10000, 0), NOTHING);
        due("10: tick -1", s.spot(0, -1, 0), NOTHING);
        due("10: what 4", s.spot(0, 0, 4), NOTHING);
        due("10: what -1", s.spot(0, 0, -1), NOTHING);
        due("10: body 8", s.spot(8, 0, 0), NOTHING);
        due("10: body -1", s.spot(-1, 0, 0), NOTHING);
        s.up(0, false);
        place(s, 0, 2, -6, 0, 0, 6);
    }

    /** Promises 11 and 12. */
    private void farAndLean() {
        PassScreener s = Kit.skyOf(TWO);
        for (int tick = 0; tick < 24; tick++) {
            due("11: far at " + tick, s.far(0, 1, tick), TWO_FAR[tick % 12]);
            due("11: far the other way at " + tick, s.far(1, 0, tick), TWO_FAR[tick % 12]);
        }
        due("11: far at 9999", s.far(0, 1, 9999), TWO_FAR[3]);
        due("11: far at 10000", s.far(0, 1, 10000), NONE);
        due("11: far at -1", s.far(0, 1, -1), NONE);
        due("11: far of one", s.far(1, 1, 0), NONE);
        due("11: far of none", s.far(0, 2, 0), NONE);
        PassScreener t = Kit.skyOf(FOUR);
        int[] ofA = {0, -64, 0, 64};
        int[] ofC = {0, 64, 0, -64};
        for (int tick = 0; tick < 8; tick++) {
            due("12: lean of a from c", t.lean(0, 2, tick), ofA[tick % 4]);
            due("12: lean of c from a", t.lean(2, 0, tick), ofC[tick % 4]);
            due("12: lean of d from a", t.lean(3, 0, tick), 0);
        }
        due("12: lean at 9999", t.lean(0, 2, 9999), 64);
        due("12: lean at 10000", t.lean(0, 2, 10000), NOTHING);
        due("12: lean at -1", t.lean(0, 2, -1), NOTHING);
        due("12: lean of one", t.lean(2, 2, 0), NOTHING);
        due("12: lean of none", t.lean(0, 4, 0), NOTHING);
        // (10,0,0) (0,6,3) by turns; turned back by nodes 0 to 3 its Y is 0, -10, 0, 10, then 6, 0, -6, 0.
        PassScreener u = Kit.skyOf("gap 1 size 2;" + Kit.body("a", 10, 10, 4, 0, 0, 5, 0, 9)
                + Kit.body("b", 1, 1, 2, 0, 0, 4, 0, 9) + Kit.body("c", 1, 1, 2, 0, 0, 4, 1, 9)
                + Kit.body("d", 1, 1, 2, 0, 0, 4, 2, 9) + Kit.body("e", 1, 1, 2, 0, 0, 4, 3, 9));
        int[] at0 = {0, 40, 0, -40};
        int[] at1 = {36 - 24, 36, 36 + 24, 36};
        for (int node = 0; node < 4; node++) {
            due("12: lean by node " + node, u.lean(0, 1 + node, 0), at0[node]);
            due("12: lean by node " + node, u.lean(0, 1 + node, 1), at1[node]);
        }
    }

    /** Promises 13, 14, 15. */
    private void sieves() {
        PassScreener s = Kit.skyOf(FOUR);
        due("13: d is far out", s.sieve(0, 3), 1);
        due("13: the other way", s.sieve(3, 0), 1);
        due("13: a and c", s.sieve(0, 2), 0);
        due("13: b and c", s.sieve(1, 2), 0);
        due("14: a by c, 64 being within", s.window(0, 2, NONE), 4);
        due("15: b and c", s.times(1, 2, NONE), 4);
        s.gap(2);
        due("14: a by c", s.window(0, 2, NONE), 2);
        due("14: a by c, 0", s.window(0, 2, 0), 0);
        due("14: a by c, 1", s.window(0, 2, 1), 2);
        due("14: a by c, 2", s.window(0, 2, 2), NONE);
        due("14: a by c, -2", s.window(0, 2, -2), NONE);
        due("14: b by c, 0", s.window(1, 2, 0), 1);
        due("14: b by c, 1", s.window(1, 2, 1), 3);
        due("14: of one", s.window(1, 1, NONE), NONE);
        due("14: of none", s.window(1, 4, NONE), NONE);
        due("15: a and c", s.times(0, 2, NONE), 2);
        due("15: a and c, 1", s.times(0, 2, 1), 2);
        due("15: a and c, 2", s.times(0, 2, 2), NONE);
        due("15: a and c, -2", s.times(0, 2, -2), NONE);
        due("15: b and c", s.times(1, 2, NONE), 0);
        due("15: b and c, 0", s.times(1, 2, 0), NONE);
        due("15: of one", s.times(0, 0, NONE), NONE);
        due("15: of none", s.times(-1, 0, NONE), NONE);
        due("13: b and c", s.sieve(1, 2), 3);
        due("13: c and b", s.sieve(2, 1), 3);
        s.up(2, false);
        due("13: UP or not", s.sieve(1, 2), 3);
        due("13: of one", s.sieve(2, 2), NONE);
        due("13: of none", s.sieve(0, 4), NONE);
        PassScreener n = Kit.skyOf(FOUR);
        n.gap(2);
        due("13: a and c", n.sieve(0, 2), 0);
        n.burn(0, 0, 1);
        due("13: found anew behind a burn, as b and c", n.sieve(0, 2), 3);
        n.burn(0, 2, 4);
        due("13: found anew, 8 and 4", n.sieve(0, 1), 0);
        n.undo();
        n.undo();
        due("13: a and c again", n.sieve(0, 2), 0);
        n.burn(2, 0, 1);
        due("13: found anew behind a burn of the other one", n.sieve(0, 2), 3);
        n.undo();
        n.burn(0, 0, 1);
        n.burn(0, 2, 4);
        n.undo();
        n.undo();
        due("13: found anew behind undo()", n.sieve(0, 2), 0);
        PassScreener t = Kit.skyOf(TWO);
        due("15: all ticks of the cycle", t.times(0, 1, NONE), 12);
        due("15: the last of them", t.times(1, 0, 11), 11);
        // (5,0) (-5,0) leans 80 from a plane that stands upright on its x: it is within 64, or not.
        PassScreener u = Kit.skyOf("gap 3 size 2;" + Kit.body("a", 5, 5, 2, 0, 0, 0, 0, 9)
                + Kit.body("b", 5, 5, 2, 0, 0, 16, 1, 9));
        due("13: PLANES", u.sieve(0, 1), 2);
        due("14: none", u.window(0, 1, NONE), 0);
        due("14: both", u.window(1, 0, NONE), 2);
        u.gap(4);
        due("13: PLANES no more", u.sieve(0, 1), 0);
        // Shells: 5 and 12 are 6 squared apart; 3 GAP squared is 27 by 3, 48 by 4.
        PassScreener v = Kit.skyOf("gap 3 size 2;" + Kit.body("a", 12, 12, 2, 0, 0, 0, 0, 9)
                + Kit.body("b", 1, 5, 2, 0, 0, 0, 0, 9));
        due("13: SHELLS", v.sieve(0, 1), 1);
        v.gap(4);
        due("13: SHELLS no more", v.sieve(0, 1), 0);
        // Side by side they are 0 apart: no GAP is so small.
        PassScreener w = Kit.skyOf("gap 0 size 2;" + Kit.body("a", 6, 7, 2, 0, 0, 0, 0, 9)
                + Kit.body("b", 1, 5, 2, 0, 0, 0, 0, 9) + Kit.body("c", 1, 4, 2, 0, 0, 0, 0, 9));
        due("13: SHELLS side by side", w.sieve(0, 1), 0);
        due("13: SHELLS one between", w.sieve(0, 2), 1);
    }

    /** Promise 16. */
    private void closest() {
        PassScreener s = Kit.skyOf(TWO);
        int[] due = {8, 0, 12, 1, NONE};
        for (int what = 0; what < due.length; what++) {
            due("16: closest(0, 1, " + what + ")", s.closest(0, 1, what), due[what]);
            due("16: closest(1, 0, " + what + ")", s.closest(1, 0, what), due[what]);
        }
        due("16: what -1", s.closest(0, 1, -1), NONE);
        due("16: of one", s.closest(0, 0, 0), NONE);
        due("16: of none", s.closest(0, 2, 0), NONE);
        s.up(1, false);
        due("16: not NEAR", s.closest(0, 1, 3), 0);
        due("16: down, too", s.closest(0, 1, 0), 8);
        PassScreener t = Kit.skyOf(FOUR);
        due("16: the first tick", t.closest(0, 1, 0), 0);
        due("16: always so far", t.closest(0, 1, 1), 32);
        due("16: like turns", t.closest(0, 1, 2), 4);
        t.gap(5);
        due("16: 32 is more than 25", t.closest(0, 1, 3), 0);
        t.gap(6);
        due("16: 32 is within 36", t.closest(0, 1, 3), 1);
        t.burn(0, 0, 1);
        due("16: found anew behind a burn", t.closest(0, 1, 1), 0);
        t.undo();
        due("16: found anew behind undo()", t.closest(0, 1, 1), 32);
        // The first two are 4 apart always; the first and the last least at tick 11: (0,-4) and (2,-6).
        PassScreener u = Kit.skyOf("gap 4 size 0;" + Kit.body("a", 4, 4, 4, 0, 0, 0, 0, 9)
                + Kit.body("h", 8, 8, 4, 0, 0, 0, 0, 9) + Kit.body("k", 8, 8, 6, 0, 0, 0, 0, 9));
        due("16: just within 16", u.closest(0, 1, 3), 1);
        due("16: cycle of 4 and 6", u.closest(0, 2, 2), 12);
        due("16: at the last tick of it", u.closest(0, 2, 0), 11);
        due("16: so far", u.closest(0, 2, 1), 8);
        u.gap(3);
        due("16: 16 is more than 9", u.closest(0, 1, 3), 0);
    }

    /** Promises 17 and 18. */
    private void boxes() {
        PassScreener s = Kit.skyOf(FOUR);
        int[][] due = {{0, 0, 4, 0, 0, 4, 0, 0}, {0, 1, 0, 0, 0, 4, 4, 0}, {1, 2, -4, 0, 0, 0, 4, 0},
            {0, 3, -4, -4, 0, 4, 4, 0}, {3, 203, -4, -4, 0, 4, 4, 0}, {9999, 9999, 0, -4, 0, 0, -4, 0}};
        for (int[] row : due) {
            for (int what = 0; what < 6; what++) {
                due("17: box(0, " + row[0] + ", " + row[1] + ", " + what + ")", s.box(0, row[0], row[1], what),
                        row[what + 2]);
            }
        }
        due("17: z of c", s.box(2, 3, 4, 2), -4);
        due("17: z of c", s.box(2, 3, 4, 5), 0);
        due("17: 201 more", s.box(0, 3, 204, 0), NOTHING);
        due("17: less", s.box(0, 3, 2, 0), NOTHING);
        due("17: from -1", s.box(0, -1, 2, 0), NOTHING);
        due("17: to 10000", s.box(0, 9990, 10000, 0), NOTHING);
        due("17: from MIN to MAX", s.box(0, MIN, MAX, 0), NOTHING);
        due("17: what 6", s.box(0, 0, 1, 6), NOTHING);
        due("17: what -1", s.box(0, 0, 1, -1), NOTHING);
        due("17: body 4", s.box(4, 0, 1, 0), NOTHING);
        due("18: a and d at 0", s.apart(0, 3, 0, 0), 44 * 44);
        due("18: d and a at 0", s.apart(3, 0, 0, 0), 44 * 44);
        due("18: a and d meet", s.apart(0, 3, 0, 1), 0);
        due("18: a and c at 1", s.apart(0, 2, 1, 1), 32);
        due("18: 200 more", s.apart(0, 3, 0, 200), 0);
        due("18: 201 more", s.apart(0, 3, 0, 201), NONE);
        due("18: less", s.apart(0, 3, 1, 0), NONE);
        due("18: to 10000", s.apart(0, 3, 9999, 10000), NONE);
        due("18: of one", s.apart(3, 3, 0, 0), NONE);
        due("18: of none", s.apart(0, 4, 0, 0), NONE);
    }

    private void pass(PassScreener s, int k, int... due) {
        for (int what = 0; what < 4; what++) {
            due("20: pass(0, 1, " + k + ", " + what + ")", s.pass(0, 1, k, what), due[what]);
        }
    }

    /** Promises 19 and 20. */
    private void passes() {
        PassScreener s = Kit.skyOf(TWO);
        due("19: passes by 3", s.passes(0, 1), 1);
        pass(s, 0, 7, 4, 8, 0);
        s.gap(2);
        pass(s, 0, 8, 2, 8, 0);
        s.gap(6);
        due("19: passes by 6, none goes round", s.passes(1, 0), 2);
        pass(s, 0, 0, 1, 0, 34);
        pass(s, 1, 5, 7, 8, 0);
        s.gap(99);
        due("19: passes by 99", s.passes(0, 1), 1);
        pass(s, 0, 0, 12, 8, 0);
        due("20: k 1", s.pass(0, 1, 1, 0), NONE);
        due("20: k -1", s.pass(0, 1, -1, 0), NONE);
        due("20: what 4", s.pass(0, 1, 0, 4), NONE);
        due("20: what -1", s.pass(0, 1, 0, -1), NONE);
        due("20: of one", s.pass(0, 0, 0, 0), NONE);
        due("20: of none", s.pass(0, 2, 0, 0), NONE);
        due("19: of one", s.passes(1, 1), NONE);
        due("19: of none", s.passes(2, 0), NONE);
        s.up(0, false);
        due("19: UP or not", s.passes(0, 1), 1);
        // 0 16 64 16 apart: by 4 the last tick is a pass of its own.
        PassScreener t = Kit.skyOf("gap 4 size 0;" + Kit.body("a", 4, 4, 4, 0, 0, 0, 0, 9)
                + Kit.body("g", 4, 12, 4, 0, 0, 0, 0, 9));
        due("19: passes", t.passes(0, 1), 2);
        pass(t, 0, 0, 2, 0, 0);
        pass(t, 1, 3, 1, 3, 16);
        PassScreener u = Kit.skyOf(FOUR);
        due("19: none", u.passes(0, 1), 0);
        due("20: none", u.pass(0, 1, 0, 0), NONE);
        // Always 32 apart: the first tick of those that are alike.
        u.gap(6);
        pass(u, 0, 0, 4, 0, 32);
    }

    private void row(PassScreener s, int k, int... due) {
        for (int what = 0; what < 4; what++) {
            due("21: list(" + k + ", " + what + ")", s.list(k, what), due[what]);
        }
    }

    /** Promise 21. */
    private void list() {
        PassScreener s = Kit.skyOf(FOUR);
        row(s, 0, 0, 2, 0, 0);
        row(s, 1, NONE, NONE, NONE, NONE);
        s.gap(6);
        row(s, 0, 0, 2, 0, 0);
        row(s, 1, 0, 1, 0, 32);
        row(s, 2, 1, 2, 0, 32);
        row(s, 3, NONE, NONE, NONE, NONE);
        row(s, -1, NONE, NONE, NONE, NONE);
        due("21: what 4", s.list(0, 4), NONE);
        due("21: what -1", s.list(0, -1), NONE);
        s.up(0, false);
        row(s, 0, 1, 2, 0, 32);
        row(s, 1, NONE, NONE, NONE, NONE);
        // All meet at (4,0) with 0 between them, the first and the last at tick 1, the others later.
        PassScreener t = Kit.skyOf("gap 0 size 0;" + Kit.body("a", 4, 4, 4, 3, 0, 0, 0, 9)
                + Kit.body("b", 4, 4, 3, 1, 0, 0, 0, 0) + Kit.body("c", 4, 4, 4, 3, 0, 16, 0, 9));
        row(t, 0, 0, 2, 1, 0);
        row(t, 1, 0, 1, 5, 0);
        row(t, 2, 1, 2, 5, 0);
        row(t, 3, NONE, NONE, NONE, NONE);
    }

    /** Promise 22. */
    private void next() {
        PassScreener s = Kit.skyOf(TWO);
        int[] due = {7, 0, 1, 8, NONE};
        for (int what = 0; what < due.length; what++) {
            due("22: next(" + what + ")", s.next(what), due[what]);
        }
        due("22: next(-1)", s.next(-1), NONE);
        s.ticks(7);
        due("22: at NOW", s.next(0), 7);
        s.ticks(1);
        due("22: NOW 8", s.next(0), 8);
        due("22: NOW 8, 0 apart", s.next(3), 0);
        s.ticks(1);
        due("22: both crashed", s.next(0), NONE);
        s.up(0, true);
        due("22: one is down", s.next(0), NONE);
        s.up(1, true);
        due("22: NOW 9", s.next(0), 9);
        s.ticks(2);
        due("22: the next cycle", s.next(0), 19);
        PassScreener t = Kit.skyOf(FOUR);
        t.gap(6);
        due("22: the first pair", t.next(2), 1);
        t.gap(5);
        due("22: the pair that is near", t.next(2), 2);
        t.up(0, false);
        due("22: none is near", t.next(0), NONE);
        // 47 and 48 meet at the last of 2256 ticks: just one cycle behind, beyond 9999, too.
        PassScreener u = Kit.skyOf("gap 0 size 0;" + Kit.body("a", 50, 50, 48, 1, 0, 0, 0, 9)
                + Kit.body("b", 50, 50, 47, 1, 0, 0, 0, 9));
        due("22: far ahead", u.next(0), u.closest(0, 1, 0));
        u.up(0, false);
        for (int k = 0; k < 9; k++) {
            u.ticks(999);
        }
        u.ticks(999);
        u.up(0, true);
        int tick = 9990;
        while (u.far(0, 1, tick % 2256) != 0) {
            tick++;
        }
        due("22: beyond 9999", u.next(0), tick);
    }

    /** Promises 23 and 24. */
    private void threatsAndGroups() {
        PassScreener s = Kit.skyOf(FOUR);
        int[] threats = {1, 0, 1, 0};
        int[] groups = {0, 1, 0, 3};
        for (int body = 0; body < 4; body++) {
            due("23: threats(" + body + ")", s.threats(body), threats[body]);
            due("24: group(" + body + ")", s.group(body), groups[body]);
        }
        due("23: threats(4)", s.threats(4), NONE);
        due("23: threats(-1)", s.threats(-1), NONE);
        due("24: group(4)", s.group(4), NONE);
        due("24: group(-1)", s.group(-1), NONE);
        s.up(0, false);
        due("23: a, were it UP", s.threats(0), 1);
        due("23: c, a being down", s.threats(2), 0);
        due("24: a is down", s.group(0), NONE);
        due("24: c alone", s.group(2), 2);
        s.gap(6);
        due("24: c with b", s.group(2), 1);
        s.up(0, true);
        due("24: all three", s.group(2), 0);
        due("23: of three", s.threats(2), 2);
        // A chain: 10 and 15, 15 and 20 are within 5; 10 and 20 are not.
        PassScreener t = Kit.skyOf("gap 5 size 0;" + Kit.body("z", 90, 90, 4, 0, 0, 0, 0, 9)
                + Kit.body("a", 20, 20, 4, 0, 0, 0, 0, 9) + Kit.body("b", 10, 10, 4, 0, 0, 0, 0, 9)
                + Kit.body("c", 15, 15, 4, 0, 0, 0, 0, 9));
        due("24: by a chain", t.group(2), 1);
        due("24: GROUPS", t.has(14), 2);
        t.up(3, false);
        due("24: the chain is cut", t.group(2), 2);
        due("24: GROUPS, cut", t.has(14), 3);
    }

    /** Promises 25, 26, 27. */
    private void chances() {
        PassScreener s = Kit.skyOf(FOUR);
        int[] ofAb = {0, 2, 6};
        for (int e = 0; e <= 5; e++) {
            if (e < ofAb.length) {
                due("25: a and b by " + e, s.chances(0, 1, e, 0), ofAb[e]);
                due("25: b and a by " + e, s.chances(1, 0, e, 0), ofAb[e]);
            }
            due("25: of how many by " + e, s.chances(0, 1, e, 1), (2 * e + 1) * (2 * e + 1));
            due("25: a and d by " + e, s.chances(0, 3, e, 0), 0);
        }
        due("25: e 6", s.chances(0, 1, 6, 1), NONE);
        due("25: e -1", s.chances(0, 1, -1, 1), NONE);
        due("25: what 2", s.chances(0, 1, 0, 2), NONE);
        due("25: what -1", s.chances(0, 1, 0, -1), NONE);
        due("25: of one", s.chances(1, 1, 0, 1), NONE);
        due("25: of none", s.chances(1, 4, 0, 1), NONE);
        due("26: a and b", s.margin(0, 1), 1);
        due("26: a and c", s.margin(0, 2), 0);
        due("26: a and d", s.margin(0, 3), NONE);
        due("26: of one", s.margin(0, 0), NONE);
        due("26: of none", s.margin(0, -1), NONE);
        int[] watched = {0, 2, 1, NONE};
        for (int what = 0; what < watched.length; what++) {
            due("27: watch(0, " + what + ")", s.watch(0, what), watched[what]);
        }
        due("27: what -1", s.watch(0, -1), NONE);
        due("27: e 6", s.watch(6, 0), NONE);
        due("27: e -1", s.watch(-1, 0), NONE);
        s.up(0, false);
        due("25: UP or not", s.chances(0, 1, 1, 0), 2);
        due("26: UP or not", s.margin(0, 1), 1);
        due("27: none near, the first pair", s.watch(0, 0), 1);
        due("27: none near, the first pair", s.watch(0, 1), 2);
        due("27: none near", s.watch(0, 2), 0);
        s.up(1, false);
        s.up(2, false);
        due("27: one is UP", s.watch(0, 0), NONE);
        PassScreener t = Kit.skyOf(TWO);
        due("25: turns without a common part", t.chances(0, 1, 1, 0), 9);
        // Half a turn of 20 off: 10 by 5 more here and 5 less there, or the other way round; 9 is out of reach of 4.
        PassScreener u = Kit.skyOf("gap 0 size 0;" + Kit.body("a", 50, 50, 20, 5, 0, 0, 0, 9)
                + Kit.body("b", 50, 50, 20, 15, 0, 0, 0, 9));
        due("25: by 4", u.chances(0, 1, 4, 0), 0);
        due("25: by 5", u.chances(0, 1, 5, 0), 2);
        due("26: by 5", u.margin(0, 1), 5);
    }

    /** Promise 28. */
    private void remains() {
        PassScreener s = Kit.skyOf(FOUR);
        int[][] left = {{0, 1}, {0, 2}, {1, 2}};
        for (int k = 0; k < 3; k++) {
            due("28: remains(" + k + ", 0)", s.remains(k, 0), left[k][0]);
            due("28: remains(" + k + ", 1)", s.remains(k, 1), left[k][1]);
        }
        due("28: k 3", s.remains(3, 0), NONE);
        due("28: k -1", s.remains(-1, 0), NONE);
        due("28: what 2", s.remains(0, 2), NONE);
        due("28: what -1", s.remains(0, -1), NONE);
        s.up(0, false);
        due("28: UP or not", s.remains(0, 0), 0);
        s.gap(2);
        due("28: b and c are sieved", s.remains(2, 0), NONE);
        s.gap(99);
        due("28: none is sieved", s.remains(5, 0), 2);
        due("28: none is sieved", s.remains(5, 1), 3);
    }

    /** Promises 29 and 30. */
    private void crowds() {
        PassScreener s = Kit.skyOf("gap 1 size 0;" + Kit.body("a", 10, 20, 4, 0, 0, 0, 0, 9)
                + Kit.body("b", 15, 25, 4, 0, 0, 0, 0, 9) + Kit.body("c", 5, 12, 4, 0, 0, 0, 0, 9)
                + Kit.body("d", 200, 200, 4, 0, 0, 0, 0, 9));
        int[][] due = {{0, 0}, {4, 0}, {5, 1}, {9, 1}, {10, 2}, {12, 2}, {13, 1}, {15, 2}, {20, 2}, {21, 1}, {25, 1},
            {26, 0}, {199, 0}, {200, 1}, {201, 0}, {MAX, 0}, {-1, NONE}, {MIN, NONE}};
        for (int[] row : due) {
            due("29: crowd(" + row[0] + ")", s.crowd(row[0]), row[1]);
        }
        due("30: crowded(0)", s.crowded(0), 10);
        due("30: crowded(1)", s.crowded(1), 2);
        due("30: crowded(2)", s.crowded(2), NONE);
        due("30: crowded(-1)", s.crowded(-1), NONE);
        s.up(2, false);
        due("29: a alone", s.crowd(10), 1);
        due("30: a and b", s.crowded(0), 15);
        s.up(0, false);
        due("30: b", s.crowded(0), 15);
        due("30: b alone", s.crowded(1), 1);
        s.up(1, false);
        due("30: d", s.crowded(0), 200);
        s.up(3, false);
        due("30: none", s.crowded(0), NONE);
        due("30: none", s.crowded(1), NONE);
    }

    /** Promise 31, and how a tick goes. */
    private void kept() {
        PassScreener s = Kit.skyOf(TWO);
        due("31: none yet", s.kept(0, 0), NONE);
        s.ticks(8);
        due("31: none yet", s.has(12), 0);
        s.ticks(1);
        due("31: the TICK", s.kept(0, 0), 8);
        due("31: which", s.kept(0, 1), 3);
        due("31: what 2", s.kept(0, 2), NONE);
        due("31: what -1", s.kept(0, -1), NONE);
        due("31: k 1", s.kept(1, 0), NONE);
        due("31: k -1", s.kept(-1, 0), NONE);
        // A row of three 3 apart: the one between takes both others with it, all at once.
        PassScreener t = Kit.skyOf("gap 0 size 3;" + Kit.body("z", 90, 90, 4, 0, 0, 0, 0, 9)
                + Kit.body("a", 10, 10, 4, 0, 0, 0, 0, 9) + Kit.body("b", 13, 13, 4, 0, 0, 0, 0, 9)
                + Kit.body("c", 16, 16, 4, 0, 0, 0, 0, 9));
        t.ticks(1);
        due("31: three at once", t.kept(0, 1), 14);
        due("31: one stays UP", t.has(1), 1);
        for (int k = 0; k < 41; k++) {
            t.up(1, true);
            t.up(2, true);
            t.ticks(1);
        }
        due("31: 40 are told of 42", t.has(12), 40);
        due("31: the oldest told", t.kept(0, 0), 2);
        for (int k = 0; k < 40; k++) {
            due("31: told, " + k, t.kept(k, 0), k + 2);
            due("31: a pair, " + k, t.kept(k, 1), 6);
        }
        due("31: no more", t.kept(40, 0), NONE);
        t.undo();
        due("31: undone, the oldest is told again", t.kept(0, 0), 1);
        for (int k = 0; k < 40; k++) {
            due("31: undone, " + k, t.kept(k, 0), k + 1);
        }
        t.ticks(5);
        due("31: once more", t.kept(39, 0), 41);
        due("31: once more", t.kept(0, 0), 2);
    }

    /** Promises 32 and 33. */
    private void doom() {
        PassScreener s = Kit.skyOf(TWO);
        due("32: in the ninth", s.doom(0), 9);
        due("32: in the ninth", s.doom(1), 9);
        due("32: none such", s.doom(2), NONE);
        due("32: none such", s.doom(-1), NONE);
        due("33: stays(0)", s.stays(0), 3);
        due("33: stays(8)", s.stays(8), 3);
        due("33: stays(9)", s.stays(9), 0);
        due("33: stays(2400)", s.stays(2400), 0);
        due("33: stays(2401)", s.stays(2401), NONE);
        due("33: stays(-1)", s.stays(-1), NONE);
        due("33: nothing is done", s.has(3), 0);
        s.ticks(8);
        due("32: in the first", s.doom(0), 1);
        s.ticks(1);
        due("32: down", s.doom(0), NONE);
        s.up(0, true);
        due("32: alone", s.doom(0), NONE);
        due("33: alone", s.stays(2400), 1);
        s.up(1, true);
        due("32: a cycle later", s.doom(1), 12);
        // Who crashes first saves the third one.
        PassScreener t = Kit.skyOf("gap 0 size 0;" + Kit.body("a", 4, 4, 4, 0, 0, 0, 0, 9)
                + Kit.body("i", 4, 4, 3, 1, 0, 0, 0, 0) + Kit.body("b", 4, 4, 4, 2, 0, 0, 0, 9));
        due("32: b and i in the third", t.doom(2), 3);
        due("32: i likewise", t.doom(1), 3);
        due("32: a never", t.doom(0), NONE);
        due("33: a alone", t.stays(3), 1);
        // Beyond 9999.
        PassScreener u = Kit.skyOf(TWO);
        u.up(0, false);
        for (int k = 0; k < 10; k++) {
            u.ticks(999);
        }
        u.ticks(9);
        u.up(0, true);
        due("32: at 9999, a tick 3 of the cycle", u.doom(0), 6);
        due("33: at 9999", u.stays(5), 3);
        due("33: at 9999", u.stays(6), 0);
    }

    /** Promise 34. */
    private void odds() {
        PassScreener s = Kit.skyOf(TWO);
        // By phases 0, 1, 2, 3 a meets the other at ticks 8, 11, 2, 5 of the cycle.
        int[][] due = {{1, 4}, {2, 4}, {3, 3}, {5, 3}, {6, 2}, {8, 2}, {9, 1}, {11, 1}, {12, 0}, {400, 0}};
        for (int[] row : due) {
            due("34: odds(0, " + row[0] + ")", s.odds(0, row[0]), row[1]);
        }
        due("34: n 0", s.odds(0, 0), NONE);
        due("34: n 401", s.odds(0, 401), NONE);
        due("34: none such", s.odds(2, 1), NONE);
        due("34: none such", s.odds(-1, 1), NONE);
        due("34: nothing is done", s.body(0, 3), 0);
        s.ticks(2);
        due("34: from tick 2 on", s.odds(0, 1), 3);
        s.up(1, false);
        due("34: alone", s.odds(0, 400), 4);
        s.up(0, false);
        due("34: down", s.odds(0, 1), NONE);
        // Those that crash with others earlier are out of its way then, but not in their last tick.
        PassScreener t = Kit.skyOf("gap 0 size 0;" + Kit.body("a", 4, 4, 4, 0, 0, 0, 0, 9)
                + Kit.body("i", 4, 4, 3, 1, 0, 0, 0, 0) + Kit.body("b", 4, 4, 4, 2, 0, 0, 0, 9));
        // Phase 2: on b at once; phase 2 is also the one that would meet i at tick 2. The others meet none.
        due("34: i is gone behind tick 2", t.odds(0, 400), 3);
    }

    /** Promise 35. */
    private void saves() {
        PassScreener s = Kit.skyOf(TWO);
        due("35: KIND", s.saves(0, 0), 2);
        due("35: d", s.saves(0, 1), 1);
        due("35: cost", s.saves(0, 2), 2);
        due("35: what 3", s.saves(0, 3), NONE);
        due("35: what -1", s.saves(0, -1), NONE);
        due("35: without FUEL", s.saves(1, 0), NONE);
        due("35: none such", s.saves(2, 0), NONE);
        due("35: none such", s.saves(-1, 0), NONE);
        due("35: nothing is done", s.body(0, 7), 9);
        s.burn(0, 2, 1);
        due("35: saved", s.saves(0, 0), NONE);
        s.undo();
        due("35: not saved", s.saves(0, 0), 2);
        s.up(1, false);
        due("35: does not crash", s.saves(0, 0), NONE);
        s.up(1, true);
        s.up(0, false);
        due("35: down", s.saves(0, 0), NONE);
        // Alike rings and turns: another phase is cheapest, and the lesser d of 1 and 3.
        PassScreener t = Kit.skyOf("gap 0 size 0;" + Kit.body("a", 4, 4, 4, 0, 0, 0, 0, 9)
                + Kit.body("b", 4, 4, 4, 0, 0, 0, 0, 9));
        due("35: KIND", t.saves(1, 0), 0);
        due("35: d", t.saves(1, 1), 1);
        due("35: cost", t.saves(1, 2), 1);
        // A third one a step ahead: d 3 costs as little.
        PassScreener u = Kit.skyOf("gap 0 size 0;" + Kit.body("a", 4, 4, 4, 0, 0, 0, 0, 9)
                + Kit.body("b", 4, 4, 4, 0, 0, 0, 0, 9) + Kit.body("c", 4, 4, 4, 1, 0, 0, 0, 9));
        due("35: d", u.saves(1, 1), 3);
        due("35: cost", u.saves(1, 2), 1);
    }

    /** Promise 36. */
    private void tries() {
        PassScreener s = Kit.skyOf(TWO);
        int[][] due = {{0, 1, 1}, {0, 3, 1}, {0, 4, NONE}, {0, 0, NONE}, {0, -1, NONE}, {1, 1, 1}, {1, 3, 1},
            {1, 4, NONE}, {2, 3, 1}, {2, 4, 0}, {2, 5, NONE}, {3, 3, 1}, {3, 4, NONE}, {4, 3, 1}, {4, 4, NONE},
            {5, 1, NONE}, {6, 1, NONE}, {-1, 1, NONE}, {2, MAX, NONE}, {3, MAX, NONE}, {4, MAX, NONE}, {5, MIN, NONE},
            {2, 0, NONE}, {4, 0, NONE}};
        for (int[] row : due) {
            due("36: tries(0, " + row[0] + ", " + row[1] + ")", s.tries(0, row[0], row[1]), row[2]);
        }
        due("36: without FUEL", s.tries(1, 0, 1), NONE);
        due("36: none such", s.tries(2, 0, 1), NONE);
        due("36: none such", s.tries(-1, 0, 1), NONE);
        due("36: nothing is done", s.body(0, 0), 4);
        s.up(1, false);
        due("36: alone", s.tries(0, 0, 1), 0);
        s.up(0, false);
        due("36: down", s.tries(0, 0, 1), NONE);
        PassScreener t = Kit.skyOf(FOUR);
        due("36: to b, off c", t.tries(0, 0, 1), 1);
        due("36: off both", t.tries(0, 0, 2), 0);
        due("36: off both", t.tries(0, 0, 3), 0);
    }

    /** Promise 37. */
    private void clears() {
        PassScreener s = Kit.skyOf(TWO);
        due("37: KIND", s.clears(0, 0), 2);
        due("37: d", s.clears(0, 1), 4);
        due("37: cost", s.clears(0, 2), 8);
        due("37: what 3", s.clears(0, 3), NONE);
        due("37: what -1", s.clears(0, -1), NONE);
        due("37: without FUEL", s.clears(1, 0), NONE);
        due("37: none such", s.clears(2, 0), NONE);
        due("37: none such", s.clears(-1, 0), NONE);
        s.burn(0, 0, 2);
        due("37: FUEL 7 is too little", s.clears(0, 0), NONE);
        s.undo();
        s.burn(0, 0, 1);
        due("37: FUEL 8 is enough", s.clears(0, 2), 8);
        s.up(1, false);
        due("37: NEAR none", s.clears(0, 0), NONE);
        s.up(1, true);
        s.up(0, false);
        due("37: down", s.clears(0, 0), NONE);
        PassScreener t = Kit.skyOf(FOUR);
        due("37: to b is no use, the other way is", t.clears(0, 0), 0);
        due("37: d", t.clears(0, 1), 3);
        due("37: cost", t.clears(0, 2), 1);
    }

    /** Promises 35, 37, 38, 39: one search asked for behind another one of the same BODY. */
    private void searches() {
        PassScreener s = Kit.skyOf(TWO);
        for (int round = 0; round < 2; round++) {
            due("37: d", s.clears(0, 1), 4);
            due("35: d", s.saves(0, 1), 1);
            due("39: d", s.twice(0, 1), 1);
            due("38: d", s.clearing(2), 4);
            due("39: the other d", s.twice(0, 3), 3);
            due("35: cost", s.saves(0, 2), 2);
            due("37: cost", s.clears(0, 2), 8);
            due("37: another BODY", s.clears(1, 2), NONE);
            due("37: cost", s.clears(0, 2), 8);
            due("38: cost", s.clearing(3), 8);
        }
        // A turn of 2: half of it is the only other phase.
        PassScreener t = Kit.skyOf("gap 0 size 0;" + Kit.body("a", 4, 4, 2, 0, 0, 0, 0, 9)
                + Kit.body("b", 4, 4, 2, 0, 0, 0, 0, 0));
        due("37: KIND", t.clears(0, 0), 0);
        due("37: d", t.clears(0, 1), 1);
        due("35: d", t.saves(0, 1), 1);
        due("38: BODY", t.clearing(0), 0);
        due("39: PHASE twice leads back, a LIFT besides does not", t.twice(0, 2), 1);
        due("39: both", t.twice(0, 4), 2);
        // a: (180,0) (0,180) (-180,0) (0,-180), the other (0,180) (-120,-60) (120,-120): they meet at (0,180). A height
        // of 11 more costs 22; a tilt of 1 leads to (0,168,11) and costs 3.
        PassScreener u = Kit.skyOf("gap 10 size 10;" + Kit.body("a", 180, 180, 4, 0, 0, 0, 0, 99)
                + Kit.body("b", 180, 180, 3, 0, 0, 0, 1, 0));
        due("37: KIND", u.clears(0, 0), 4);
        due("37: d", u.clears(0, 1), 1);
        due("37: cost", u.clears(0, 2), 3);
        due("35: KIND", u.saves(0, 0), 4);
        due("38: KIND", u.clearing(1), 4);
        due("39: one more is PHASE", u.twice(0, 0), 0);
        due("39: and TILT", u.twice(0, 2), 4);
        due("39: both", u.twice(0, 4), 4);
    }

    /** Promise 38. */
    private void clearing() {
        PassScreener s = Kit.skyOf(TWO);
        int[] due = {0, 2, 4, 8, NONE};
        for (int what = 0; what < due.length; what++) {
            due("38: clearing(" + what + ")", s.clearing(what), due[what]);
        }
        due("38: clearing(-1)", s.clearing(-1), NONE);
        s.up(0, false);
        due("38: none NEAR", s.clearing(0), NONE);
        // a and b alike, c alone and d with c: no burn of one clears both pairs.
        PassScreener t = Kit.skyOf("gap 1 size 0;" + Kit.body("a", 4, 4, 4, 0, 0, 0, 0, 9)
                + Kit.body("b", 4, 4, 4, 0, 0, 0, 0, 9) + Kit.body("c", 40, 40, 4, 0, 0, 0, 0, 9)
                + Kit.body("d", 40, 40, 4, 0, 0, 0, 0, 9));
        due("38: two pairs", t.clearing(0), NONE);
        t.up(3, false);
        due("38: one pair, the first BODY", t.clearing(0), 0);
        due("38: KIND", t.clearing(1), 0);
        due("38: d", t.clearing(2), 1);
        due("38: cost", t.clearing(3), 1);
        // b is between a and c: b must go, by a phase; a is cheaper by nothing, since c stays near b.
        PassScreener u = Kit.skyOf("gap 5 size 0;" + Kit.body("a", 10, 10, 4, 0, 0, 0, 0, 9)
                + Kit.body("b", 15, 15, 4, 0, 0, 0, 0, 9) + Kit.body("c", 20, 20, 4, 0, 0, 0, 0, 9));
        due("38: the one between", u.clearing(0), 1);
        due("38: its KIND", u.clearing(1), 0);
    }

    /** Promise 39. */
    private void twice() {
        PassScreener s = Kit.skyOf(TWO);
        int[] due = {2, 1, 2, 3, 8, NONE};
        for (int what = 0; what < due.length; what++) {
            due("39: twice(0, " + what + ")", s.twice(0, what), due[what]);
        }
        due("39: what -1", s.twice(0, -1), NONE);
        due("39: without FUEL", s.twice(1, 0), NONE);
        due("39: none such", s.twice(2, 0), NONE);
        due("39: none such", s.twice(-1, 0), NONE);
        s.burn(0, 0, 2);
        due("39: FUEL 7 is too little", s.twice(0, 0), NONE);
        s.undo();
        s.up(1, false);
        due("39: NEAR none", s.twice(0, 0), NONE);
        s.up(1, true);
        s.up(0, false);
        due("39: down", s.twice(0, 0), NONE);
        // Three to the left by phases of 1 and 1 of 4: 2, which is free; 1 and 2 would be 3.
        PassScreener t = Kit.skyOf("gap 0 size 0;" + Kit.body("a", 4, 4, 4, 0, 0, 0, 0, 9)
                + Kit.body("b", 4, 4, 4, 0, 0, 0, 0, 9));
        int[] first = {0, 1, 0, 1, 2};
        for (int what = 0; what < first.length; what++) {
            due("39: twice(1, " + what + ")", t.twice(1, what), first[what]);
        }
    }

    /** Promise 40. */
    private void room() {
        PassScreener s = Kit.skyOf(FOUR);
        due("40: 32 apart", s.room(0, 1), 5);
        due("40: 0 apart", s.room(0, 2), NONE);
        due("40: 44 apart", s.room(0, 3), 43);
        due("40: of one", s.room(0, 0), NONE);
        due("40: of none", s.room(0, 4), NONE);
        s.up(0, false);
        due("40: UP or not", s.room(1, 0), 5);
        PassScreener t = Kit.skyOf("gap 0 size 0;" + Kit.body("a", 100, 100, 4, 0, 0, 0, 0, 9)
                + Kit.body("b", 199, 199, 4, 0, 0, 0, 0, 9) + Kit.body("c", 200, 200, 4, 0, 0, 0, 0, 9)
                + Kit.body("d", 101, 101, 4, 0, 0, 0, 0, 9));
        due("40: 99 apart", t.room(0, 1), 98);
        due("40: 100 apart", t.room(0, 2), 99);
        due("40: 1 apart", t.room(0, 3), 0);
    }

    /** Promises 41, 42, 43. */
    private void seen() {
        PassScreener s = Kit.skyOf(FOUR);
        due("42: nothing SEEN", s.fits(NONE), NONE);
        due("43: nothing SEEN", s.tells(0), NONE);
        Kit.tape(s, 0, 0);
        due("41: one row", s.see(0), 1);
        due("41: the tape is gone", s.end(1), false);
        due("42: how many", s.fits(NONE), 2);
        due("42: 0", s.fits(0), 0);
        due("42: 1", s.fits(1), 1);
        due("42: 2", s.fits(2), NONE);
        due("42: -2", s.fits(-2), NONE);
        due("43: tick", s.tells(0), 1);
        due("43: left", s.tells(1), 1);
        due("43: what 2", s.tells(2), NONE);
        due("43: what -1", s.tells(-1), NONE);
        Kit.tape(s, 255, 2, 1, 0);
        due("41: two rows", s.see(1), 2);
        due("6: rows SEEN", s.has(5), 2);
        due("42: phase 0 alone", s.fits(NONE), 1);
        due("42: phase 0", s.fits(0), 0);
        due("43: at once", s.tells(0), 0);
        due("43: one", s.tells(1), 1);
        Kit.tape(s, 0, 3);
        due("41: never so", s.see(0), 1);
        due("42: no FITS", s.fits(NONE), 0);
        due("42: no FITS", s.fits(0), NONE);
        due("43: no FITS", s.tells(0), NONE);
        int[][] wrong = {{}, {0}, {0, 0, 0}, {0, 4}, {0, 0, 1, 255}, new int[34], new int[33]};
        for (int[] bytes : wrong) {
            Kit.tape(s, bytes);
            due("41: " + bytes.length + " bytes", s.see(0), NONE);
            due("41: the tape is gone", s.end(1), false);
        }
        Kit.tape(s, 0, 0);
        due("41: no such BODY", s.see(4), NONE);
        due("41: the tape is gone", s.end(1), false);
        due("41: no such BODY", s.see(-1), NONE);
        due("41: refused", s.status(5), 9);
        due("41: all stays", s.has(5), 1);
        due("41: all stays", s.fits(NONE), 0);
        Kit.tape(s, new int[32]);
        due("41: sixteen rows", s.see(0), 16);
        // As it is now: by another tilt y is cut to 0, and the phase counts for nothing.
        PassScreener t = Kit.skyOf("gap 0 size 0;" + Kit.body("a", 4, 4, 4, 3, 0, 12, 0, 99));
        Kit.tape(t, 0, 2);
        t.see(0);
        due("42: y is below 0", t.fits(0), 3);
        t.burn(0, 4, 4);
        due("42: y is 0", t.fits(NONE), 0);
        t.undo();
        due("42: SEEN stays", t.fits(NONE), 1);
        t.up(0, false);
        due("42: down, too", t.fits(NONE), 1);
        // Quarters by steps: 0 0 0 1 1 3 2 2. From 0, 1, 2 on four ticks lead to three of them, fewer to two.
        PassScreener u = Kit.skyOf("gap 0 size 0;" + Kit.body("a", 10, 10, 8, 0, 0, 0, 0, 9));
        Kit.tape(u, 0, 0);
        u.see(0);
        due("42: 0, 1, 2 of 8", u.fits(NONE), 3);
        due("42: 2 of 8", u.fits(2), 2);
        due("43: at 4", u.tells(0), 4);
        due("43: one each", u.tells(1), 1);
    }

    /** Promise 44. */
    private void burn() {
        PassScreener s = Kit.skyOf("gap 1 size 0;" + Kit.body("a", 10, 20, 12, 3, 5, 8, 0, 99)
                + Kit.body("b", 1, 200, 2, 0, 0, 0, 0, 99) + Kit.body("c", 10, 20, 12, 3, 5, 8, 0, 3));
        due("44: PHASE by 10", s.burn(0, 0, 10), 97);
        due("44: PHASE", s.body(0, 3), 1);
        due("44: LIFT by 6", s.burn(0, 1, 6), 91);
        due("44: LIFT", s.body(0, 4), 11);
        due("44: LIFT by 1", s.burn(0, 1, 1), 90);
        due("44: LIFT", s.body(0, 4), 0);
        due("44: up by 5", s.burn(0, 2, 5), 80);
        due("44: LOW", s.body(0, 0), 15);
        due("44: HIGH", s.body(0, 1), 25);
        due("44: down by 14", s.burn(0, 3, 14), 52);
        due("44: LOW", s.body(0, 0), 1);
        due("44: HIGH", s.body(0, 1), 11);
        due("44: down by 1 more", s.burn(0, 3, 1), NONE);
        due("44: TILT by 8", s.burn(0, 4, 8), 28);
        due("44: TILT", s.body(0, 5), 16);
        due("44: TILT by 1 more", s.burn(0, 4, 1), NONE);
        due("44: TILT less by 9", s.burn(0, 5, 9), 1);
        due("44: TILT", s.body(0, 5), 7);
        due("44: FUEL", s.body(0, 7), 1);
        due("44: costs 2", s.burn(0, 0, 2), NONE);
        due("44: costs 1", s.burn(0, 0, 11), 0);
        due("44: PHASE", s.body(0, 3), 0);
        due("44: costs 1", s.burn(0, 0, 1), NONE);
        PassScreener t = Kit.skyOf("gap 1 size 0;" + Kit.body("a", 100, 190, 12, 3, 5, 8, 0, 99));
        due("44: HIGH beyond 200", t.burn(0, 2, 11), NONE);
        due("44: HIGH up to 200", t.burn(0, 2, 10), 79);
        due("44: HIGH", t.body(0, 1), 200);
        due("44: TILT below 0", t.burn(0, 5, 9), NONE);
        due("44: TILT down to 0", t.burn(0, 5, 8), 55);
        due("44: TILT", t.body(0, 5), 0);
        due("44: HIGH is 200", s.burn(1, 2, 1), NONE);
        due("44: LOW is 1", s.burn(1, 3, 1), NONE);
        due("44: TILT is 0", s.burn(1, 5, 1), NONE);
        due("44: d is TURN", s.burn(1, 0, 2), NONE);
        due("44: d is TURN", s.burn(1, 1, 2), NONE);
        due("44: turn of 2", s.burn(1, 0, 1), 98);
        for (int kind = -1; kind <= 6; kind++) {
            due("44: d 0", s.burn(2, kind, 0), NONE);
            due("44: d -1", s.burn(2, kind, -1), NONE);
            due("44: d MIN", s.burn(2, kind, MIN), NONE);
            due("44: d MAX", s.burn(2, kind, MAX), NONE);
            due("44: d as 2 d comes round to 0", s.burn(2, kind, 1 << 30), NONE);
        }
        due("44: KIND 6", s.burn(2, 6, 1), NONE);
        due("44: KIND -1", s.burn(2, -1, 1), NONE);
        due("44: none such", s.burn(3, 0, 1), NONE);
        due("44: none such", s.burn(-1, 0, 1), NONE);
        due("44: FUEL for a TILT of 1", s.burn(2, 4, 1), 0);
        s.undo();
        s.up(2, false);
        due("44: down", s.burn(2, 0, 1), NONE);
        due("44: refused", s.status(3), 54);
    }

    /** Promise 45. */
    private void up() {
        PassScreener s = Kit.skyOf(TWO);
        due("45: is so", s.up(0, true), false);
        due("45: down", s.up(0, false), true);
        due("45: is so", s.up(0, false), false);
        due("45: UP", s.up(0, true), true);
        due("45: none such", s.up(2, true), false);
        due("45: none such", s.up(2, false), false);
        due("45: none such", s.up(-1, false), false);
        due("45: refused", s.status(2), 5);
        due("45: ACTS", s.has(6), 2);
    }

    /** Promise 46. */
    private void gap() {
        PassScreener s = Kit.skyOf(TWO);
        due("46: is that", s.gap(3), false);
        due("46: 100", s.gap(100), false);
        due("46: -1", s.gap(-1), false);
        due("46: refused", s.status(3), 3);
        due("46: 99", s.gap(99), true);
        due("46: 0", s.gap(0), true);
        due("46: GAP", s.has(2), 0);
        due("46: ACTS", s.has(6), 2);
    }

    /** Promise 47. */
    private void ticks() {
        PassScreener s = Kit.skyOf(TWO);
        due("47: 0", s.ticks(0), NONE);
        due("47: -1", s.ticks(-1), NONE);
        due("47: 1000", s.ticks(1000), NONE);
        due("47: MAX", s.ticks(MAX), NONE);
        due("47: 8", s.ticks(8), 8);
        due("47: UP", s.has(1), 2);
        due("47: 1", s.ticks(1), 9);
        due("47: crashed", s.has(1), 0);
        for (int k = 1; k <= 10; k++) {
            due("47: 999", s.ticks(999), 9 + 999 * k);
        }
        due("47: beyond 9999", s.ticks(1), NONE);
        s.undo();
        due("47: beyond 9999", s.ticks(999), 9999);
        s.undo();
        due("47: one ACT", s.has(3), 9000);
        s.ticks(998);
        due("47: beyond 9999", s.ticks(2), NONE);
        due("47: up to 9999", s.ticks(1), 9999);
        due("47: refused", s.status(2), 6);
    }

    /** Promise 48. From a seed of 1 draws are of 1103527590, 377401575, 662824084, 1147902781, 2035015474, .. */
    private void chance() {
        PassScreener s = Kit.skyOf("gap 0 size 0;" + Kit.body("a", 4, 8, 4, 1, 1, 0, 0, 9));
        due("48: down, two ticks", s.chance(1), 2);
        due("48: down", s.has(1), 0);
        due("48: the seed", s.has(7), 662824084);
        due("48: LIFT, no tick", s.chance(1), 2);
        due("48: LIFT", s.body(0, 4), 2);
        due("48: PHASE stays", s.body(0, 3), 1);
        due("48: the seed", s.has(7), 1508029952);
        due("48: ACTS", s.has(6), 2);
        due("48: LIFT tells", s.spot(0, 3, 3), 8);
        s.undo();
        due("48: LIFT undone", s.spot(0, 3, 3), 6);
        due("49: the seed stays", s.has(7), 1508029952);
        due("48: n 0", s.chance(0), NONE);
        due("48: n 41", s.chance(41), NONE);
        due("48: n -1", s.chance(-1), NONE);
        due("48: n MAX", s.chance(MAX), NONE);
        for (int k = 0; k < 9; k++) {
            s.ticks(999);
        }
        s.ticks(716);
        due("48: NOW", s.has(3), 9709);
        due("48: 42 times 7 is too much", s.chance(40) >= 9709, true);
        s.undo();
        s.ticks(11);
        due("48: 9720 and 280 is too much", s.chance(40), NONE);
        s.undo();
        s.ticks(10);
        due("48: 9719 and 280 is not", s.chance(40) >= 9719, true);
        due("48: one ACT", s.undo(), true);
        due("48: one ACT", s.has(3), 9719);
        due("48: refused", s.status(2), 5);
    }

    /** Promise 49. */
    private void undo() {
        PassScreener s = Kit.skyOf(TWO);
        due("49: none", s.undo(), false);
        s.gap(20);
        s.burn(0, 2, 1);
        s.up(1, false);
        s.up(1, true);
        s.ticks(30);
        s.seed(5);
        Kit.tape(s, 0, 0);
        s.see(0);
        s.chance(5);
        int seed = s.has(7);
        due("49: ACTS", s.has(6), 6);
        due("49: chance", s.undo(), true);
        due("49: NOW", s.has(3), 30);
        due("49: the seed stays", s.has(7), seed);
        due("49: SEEN stays", s.has(5), 1);
        due("49: ticks", s.undo(), true);
        due("49: NOW", s.has(3), 0);
        due("49: up", s.undo(), true);
        due("49: down", s.has(1), 1);
        due("49: down", s.undo(), true);
        due("49: UP", s.has(1), 2);
        due("49: burn", s.undo(), true);
        due("49: FUEL", s.body(0, 7), 9);
        due("49: HEIGHT", s.spot(0, 0, 3), 4);
        due("49: GAP", s.undo(), true);
        due("49: GAP", s.has(2), 3);
        due("49: no more", s.undo(), false);
        due("49: refused", s.status(4), 2);
        s.ticks(9);
        due("49: crashed", s.has(12), 1);
        s.undo();
        due("49: nothing is KEPT", s.has(12), 0);
        due("49: UP", s.has(1), 2);
        for (int k = 1; k <= 25; k++) {
            s.gap(20 + k);
            due("49: ACTS", s.has(6), Math.min(20, k));
        }
        for (int k = 24; k >= 5; k--) {
            due("49: the last 20", s.undo(), true);
            due("49: GAP", s.has(2), 20 + k);
        }
        due("49: no more than 20", s.undo(), false);
        due("49: GAP", s.has(2), 25);
    }

    /** Promise 50. */
    private void seed() {
        PassScreener s = new PassScreener();
        due("50: -1", s.seed(-1), false);
        due("50: MIN", s.seed(MIN), false);
        due("50: 1 still", s.has(7), 1);
        due("50: 0", s.seed(0), true);
        due("50: 0", s.has(7), 0);
        due("50: MAX", s.seed(MAX), true);
        due("50: MAX", s.has(7), MAX);
        due("50: refused", s.status(5), 2);
        Kit.tell(s, "gap 0 size 0;" + Kit.body("a", 4, 8, 4, 1, 1, 0, 0, 9));
        s.seed(0);
        // 12345 / 64 is 192: of one BODY it is the first; the next x decides between three.
        s.chance(1);
        long x = 0;
        for (int k = 0; k < 2; k++) {
            x = (1103515245L * x + 12345) % (1L << 31);
        }
        due("50: down by a draw of 0", s.has(1), x / 64 % 3 == 0 ? 0 : 1);
    }

    private static int[] imageOf(PassScreener s) {
        int[] bytes = new int[s.image()];
        for (int k = 0; k < bytes.length; k++) {
            bytes[k] = s.octet(k);
        }
        return bytes;
    }

    private static void check(int[] bytes) {
        int c = 173;
        for (int k = 0; k < bytes.length - 1; k++) {
            c = (3 * c + bytes[k]) % 251;
        }
        bytes[bytes.length - 1] = c;
    }

    private void refusedImage(PassScreener s, String why, int... bytes) {
        Kit.tape(s, bytes);
        due("53: " + why, s.on(), false);
        due("53: the tape is gone", s.end(1), false);
    }

    /** Promises 51, 52, 53. */
    private void images() {
        PassScreener s = Kit.skyOf("gap 3 size 1;" + Kit.body("a", 10, 20, 12, 3, 5, 8, 2, 99)
                + Kit.body("b", 1, 200, 2, 0, 1, 0, 0, 0));
        s.up(1, false);
        due("52: ahead of any", s.octet(0), NONE);
        due("51: image()", s.image(), 16);
        int[] due = {3, 1, 10, 20, 3, 5, 8, 99, 0, 1, 200, 0, 1, 0, 0};
        int[] bytes = java.util.Arrays.copyOf(due, 16);
        check(bytes);
        for (int k = 0; k < 16; k++) {
            due("52: octet(" + k + ")", s.octet(k), bytes[k]);
        }
        due("52: octet(16)", s.octet(16), NONE);
        due("52: octet(-1)", s.octet(-1), NONE);
        s.ticks(7);
        s.burn(0, 2, 10);
        s.gap(50);
        due("52: of the latest image()", s.octet(0), 3);
        Kit.tape(s, 0, 0);
        s.see(0);
        Kit.tape(s, bytes);
        due("53: on()", s.on(), true);
        due("53: the tape is gone", s.end(1), false);
        due("53: GAP", s.has(2), 3);
        due("53: LOW", s.body(0, 0), 10);
        due("53: HEIGHT", s.spot(0, 7, 3), 15);
        due("53: FUEL", s.body(0, 7), 99);
        due("53: NODE stays", s.body(0, 6), 2);
        due("53: TURN stays", s.body(0, 2), 12);
        due("53: NOW stays", s.has(3), 7);
        due("53: nothing can be undone", s.has(6), 0);
        due("53: SEEN stays", s.has(5), 1);
        int[] other = {99, 0, 200, 200, 11, 11, 16, 0, 1, 1, 1, 1, 0, 16, 99, 0};
        check(other);
        Kit.tape(s, other);
        due("53: edges", s.on(), true);
        due("53: edges", java.util.Arrays.equals(imageOf(s), other), true);
        int[][] spoilt = {{0, 100}, {1, 2}, {2, 201}, {2, 0}, {3, 199}, {3, 201}, {4, 12}, {5, 12}, {6, 17}, {7, 100},
            {9, 0}, {9, 2}, {10, 0}, {11, 2}, {12, 2}, {14, 255}};
        for (int[] one : spoilt) {
            int[] copy = other.clone();
            copy[one[0]] = one[1];
            check(copy);
            refusedImage(s, "byte " + one[0] + " is " + one[1], copy);
        }
        int[] wrongCheck = other.clone();
        wrongCheck[15] ^= 1;
        refusedImage(s, "the last byte", wrongCheck);
        int[] wrongByte = other.clone();
        wrongByte[7] = 1;
        refusedImage(s, "another byte", wrongByte);
        int[] longer = java.util.Arrays.copyOf(other, 17);
        check(longer);
        refusedImage(s, "too long", longer);
        int[] shorter = java.util.Arrays.copyOf(other, 9);
        check(shorter);
        refusedImage(s, "too short", shorter);
        refusedImage(s, "no byte");
        due("53: refused", s.status(5), spoilt.length + 5);
        due("53: all stays", java.util.Arrays.equals(imageOf(s), other), true);
        PassScreener t = Kit.skyOf(TWO);
        int[] now = imageOf(t);
        t.ticks(9);
        due("53: crashed", t.has(12), 1);
        Kit.tape(t, now);
        due("53: on()", t.on(), true);
        due("53: UP again", t.has(1), 2);
        due("53: nothing is KEPT", t.has(12), 0);
        due("53: NOW stays", t.has(3), 9);
        due("53: looked at anew", t.has(4), 1);
        PassScreener u = Kit.skyOf("gap 3 size 1;");
        Kit.tape(u, 7, (3 * 173 + 7) % 251);
        due("53: without BODIES", u.on(), true);
        due("53: GAP", u.has(2), 7);
        due("51: without BODIES", u.image(), 2);
    }

    /** Promise 54. */
    private void status() {
        PassScreener s = new PassScreener();
        for (int what = 0; what < 6; what++) {
            due("54: status(" + what + ")", s.status(what), 0);
        }
        due("54: status(6)", s.status(6), NONE);
        due("54: status(-1)", s.status(-1), NONE);
        s.end(1);
        s.sky();
        s.up(0, true);
        s.ticks(1);
        s.chance(1);
        s.burn(0, 0, 1);
        s.gap(1);
        s.undo();
        s.undo();
        s.undo();
        s.undo();
        s.seed(-1);
        s.see(0);
        s.on();
        s.see(0);
        s.seed(-1);
        int[] due = {1, 1, 3, 2, 4, 5};
        for (int what = 0; what < 6; what++) {
            due("54: status(" + what + ")", s.status(what), due[what]);
        }
        s.named();
        s.tries(0, 0, 1);
        s.stays(-1);
        due("54: questions are not refused", s.status(0) + s.status(2) + s.status(3) + s.status(5), 11);
    }
}
