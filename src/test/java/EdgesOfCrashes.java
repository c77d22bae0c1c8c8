/** Edges of promises 31 to 35: what is kept, who crashes when, by how many phases, what saves. */
final class EdgesOfCrashes extends Edge {
    private static final int[] NO_BODY = {-1, 2, 9, 10, MAX, MIN};

    private EdgesOfCrashes() {
    }

    public static void main(String[] args) {
        EdgesOfCrashes edges = new EdgesOfCrashes();
        edges.tickGoes();
        edges.kept();
        edges.keptFull();
        edges.doom();
        edges.stays();
        edges.odds();
        edges.saves();
        edges.savesChoice();
        edges.savesByEachKind();
        edges.aheadOfTheLastTick();
        edges.manyCalls();
        edges.close(args);
    }

    /** Two that meet at (50,0,0) at a TICK, and at that of 2256 alone: the second ring stands upright. */
    private static PassScreener meetingAt(int tick, int fuel) {
        return Kit.skyOf("gap 0 size 0;" + Kit.body("a", 50, 50, 48, (48 - tick % 48) % 48, 0, 0, 0, fuel)
                + Kit.body("b", 50, 50, 47, (47 - tick % 47) % 47, 0, 16, 0, fuel));
    }

    private void tickGoes() {
        by(0, "A TICK goes: those that are UP and FAR no more than SIZE squared, at NOW, from another one that is UP "
                + "CRASH: they are down, all at once");
        // 3, 3 and 4 apart: by 3 the first three go, the last one stays, though it is near enough by 4.
        String four = shuttle("a", 10, 0, 9) + shuttle("b", 13, 0, 9) + shuttle("c", 16, 0, 9) + shuttle("d", 20, 0, 9);
        PassScreener s = Kit.skyOf("gap 0 size 3;" + four);
        due("ticks(1)", s.ticks(1), 1);
        due("stays(0)", s.stays(0), 8);
        due("kept(0, 1)", s.kept(0, 1), 7);
        PassScreener t = Kit.skyOf("gap 0 size 2;" + four);
        t.ticks(999);
        due("stays(0): 3 is more than SIZE", t.stays(0), 15);
        PassScreener u = Kit.skyOf("gap 0 size 4;" + four);
        u.up(1, false);
        u.ticks(1);
        due("stays(0): one that is down takes none with it", u.stays(0), 1);
        due("kept(0, 1)", u.kept(0, 1), 12);
        PassScreener v = Kit.skyOf("gap 99 size 20;" + tenBodies());
        v.ticks(1);
        due("stays(0): all ten at once", v.stays(0), 0);
        due("kept(0, 1)", v.kept(0, 1), 1023);
        // Upright rings: apart in z alone at even TICKS, by 10 and by 4, in x alone at odd ones.
        String upright = Kit.body("a", 5, 5, 4, 1, 0, 16, 0, 9) + Kit.body("b", 5, 5, 4, 3, 0, 16, 0, 9)
                + Kit.body("c", 9, 9, 4, 1, 0, 16, 0, 9);
        PassScreener x = Kit.skyOf("gap 3 size 3;" + upright);
        due("stays(2400): 4 is more than SIZE", x.stays(2400), 7);
        due("next(0): 4 is more than GAP", x.next(0), NONE);
        x.ticks(9);
        due("stays(0)", x.stays(0), 7);
        PassScreener y = Kit.skyOf("gap 4 size 4;" + upright);
        due("next(2)", y.next(2), 2);
        due("next(3)", y.next(3), 16);
        y.ticks(1);
        due("kept(0, 1)", y.kept(0, 1), 5);
        by(0, "NOW is one more (9999 at most)");
        PassScreener w = meetingAt(9998, 9);
        w.up(0, false);
        for (int k = 0; k < 10; k++) {
            w.ticks(999);
        }
        due("ticks(8)", w.ticks(8), 9998);
        w.up(0, true);
        due("ticks(1)", w.ticks(1), 9999);
        due("kept(0, 0): the last TICK that goes", w.kept(0, 0), 9998);
        due("ticks(1)", w.ticks(1), NONE);
        due("has(3)", w.has(3), 9999);
    }

    private void kept() {
        by(31, "Of what is told as KEPT, the k-th from the oldest on: 0 the TICK, 1 which BODIES, as bits.");
        PassScreener s = meetingAt(998, 9);
        s.ticks(999);
        due("kept(0, 0)", s.kept(0, 0), 998);
        due("kept(0, 1)", s.kept(0, 1), 3);
        by(31, "NONE when there is none such, or for others.");
        for (int k : new int[] {-1, 1, 40, MAX, MIN}) {
            due("kept(" + k + ", 0)", s.kept(k, 0), NONE);
            due("kept(" + k + ", 1)", s.kept(k, 1), NONE);
        }
        for (int what : new int[] {-1, 2, MAX, MIN}) {
            due("kept(0, " + what + ")", s.kept(0, what), NONE);
        }
        due("undo()", s.undo(), true);
        due("kept(0, 0): undone", s.kept(0, 0), NONE);
    }

    private void keptFull() {
        by(0, "that is KEPT (the TICK, which, as bits; the last 40 are told)");
        PassScreener s = Kit.skyOf("gap 0 size 0;" + shuttle("a", 10, 0, 9) + shuttle("b", 10, 0, 9));
        for (int crash = 1; crash <= 42; crash++) {
            s.up(0, true);
            s.up(1, true);
            s.ticks(1);
            due("has(12) behind " + crash, s.has(12), Math.min(crash, 40));
            due("kept(0, 0) behind " + crash, s.kept(0, 0), Math.max(0, crash - 40));
            due("kept(39, 0) behind " + crash, s.kept(39, 0), crash < 40 ? NONE : crash - 1);
        }
        due("kept(40, 0)", s.kept(40, 0), NONE);
        s.undo();
        due("kept(0, 0): the older one is told again", s.kept(0, 0), 1);
        due("kept(39, 0): the latest one is not", s.kept(39, 0), 40);
        // Three in turns, so that each row has other BODIES than the one ahead of it.
        PassScreener t = Kit.skyOf("gap 0 size 0;" + shuttle("a", 10, 0, 9) + shuttle("b", 10, 0, 9)
                + shuttle("c", 10, 0, 9));
        for (int crash = 0; crash < 43; crash++) {
            for (int body = 0; body < 3; body++) {
                t.up(body, body != crash % 3);
            }
            t.ticks(1);
        }
        for (int k = 0; k < 40; k++) {
            due("kept(" + k + ", 0) of 43", t.kept(k, 0), k + 3);
            due("kept(" + k + ", 1) of 43", t.kept(k, 1), 7 - (1 << k % 3));
        }
    }

    /** BODIES on one ring of four steps, by their PHASES. */
    private static String ringOf(int height, int... phases) {
        StringBuilder text = new StringBuilder();
        for (int k = 0; k < phases.length; k++) {
            text.append(Kit.body(String.valueOf((char) ('a' + k)), height, height, 4, phases[k], 0, 0, 0, 9));
        }
        return text.toString();
    }

    private void doom() {
        by(32, "With how many TICKS AHEAD (2400 at most) a BODY CRASHES (1: in the first one)");
        due("doom(0): in the first one", meetingAt(0, 9).doom(0), 1);
        due("doom(1): in the first one", meetingAt(0, 9).doom(1), 1);
        due("doom(0): in the second one", meetingAt(1, 9).doom(0), 2);
        due("doom(0): at the last of a CYCLE", meetingAt(2255, 9).doom(0), 2256);
        PassScreener s = meetingAt(2255, 9);
        s.up(0, false);
        for (int k = 0; k < 10; k++) {
            s.ticks(999);
        }
        s.ticks(9);
        s.up(0, true);
        due("doom(0): beyond 9999", s.doom(0), 11279 - 9999 + 1);
        due("doom(1): beyond 9999", s.doom(1), 11279 - 9999 + 1);
        by(32, "NONE when it does not, is down, or there is none such.");
        PassScreener t = meetingAt(5, 9);
        for (int body : NO_BODY) {
            due("doom(" + body + ")", t.doom(body), NONE);
        }
        t.up(0, false);
        due("doom(0): it is down", t.doom(0), NONE);
        due("doom(1): it does not", t.doom(1), NONE);
        due("has(3): nothing is done", t.has(3), 0);
        due("has(12): nothing is done", t.has(12), 0);
    }

    private void stays() {
        by(33, "BODIES that are UP behind n TICKS AHEAD (0 .. 2400), as bits");
        PassScreener s = meetingAt(0, 9);
        due("stays(0)", s.stays(0), 3);
        due("stays(1)", s.stays(1), 0);
        PassScreener t = meetingAt(2255, 9);
        due("stays(2255)", t.stays(2255), 3);
        due("stays(2256)", t.stays(2256), 0);
        due("stays(2400)", t.stays(2400), 0);
        due("has(1): nothing is done", t.has(1), 2);
        by(33, "NONE when n can't be, or without a sky.");
        for (int n : new int[] {-1, 2401, MAX, MIN}) {
            due("stays(" + n + ")", t.stays(n), NONE);
        }
        PassScreener u = new PassScreener();
        due("stays(0) without a sky", u.stays(0), NONE);
        due("stays(2400) without a sky", u.stays(2400), NONE);
        Kit.tell(u, "gap 1 size 0");
        due("stays(0) behind a fault", u.stays(0), NONE);
        Kit.tell(u, "gap 1 size 0;");
        due("stays(0) without BODIES", u.stays(0), 0);
        due("stays(2400) without BODIES", u.stays(2400), 0);
        due("stays(2401) without BODIES", u.stays(2401), NONE);
    }

    private void odds() {
        by(34, "By how many of all PHASES, told now, a BODY is UP behind n TICKS AHEAD (1 .. 400)");
        // The other is where both could meet at 23 and 47 more each time: by 399 it is so nine times.
        PassScreener s = meetingAt(399, 9);
        due("odds(0, 1)", s.odds(0, 1), 48);
        due("odds(0, 23)", s.odds(0, 23), 48);
        due("odds(0, 24)", s.odds(0, 24), 47);
        due("odds(0, 399)", s.odds(0, 399), 40);
        due("odds(0, 400)", s.odds(0, 400), 39);
        PassScreener t = meetingAt(400, 9);
        due("odds(0, 400)", t.odds(0, 400), 40);
        // At NOW the other one is at the place where both could meet.
        s.ticks(23);
        due("odds(0, 1) at 23", s.odds(0, 1), 47);
        due("body(0, 3): nothing is done", s.body(0, 3), 33);
        // All PHASES meet somebody: two of each other on a ring of 2.
        PassScreener u = Kit.skyOf("gap 0 size 0;" + shuttle("a", 10, 0, 9) + shuttle("b", 10, 0, 9)
                + shuttle("c", 10, 1, 9));
        due("odds(0, 1)", u.odds(0, 1), 0);
        // The other has 48 steps: it is where both could meet at 15 and 48 more each time, nine times by 399.
        PassScreener v = meetingAt(399, 9);
        due("odds(1, 400)", v.odds(1, 400), 38);
        due("odds(1, 399)", v.odds(1, 399), 39);
        due("odds(1, 15)", v.odds(1, 15), 47);
        due("odds(1, 16)", v.odds(1, 16), 46);
        // Long behind the first TURN it is as at the beginning.
        PassScreener w = Kit.skyOf("gap 0 size 0;" + shuttle("a", 10, 0, 9) + shuttle("b", 10, 0, 9));
        w.up(1, false);
        for (int tick = 1; tick <= 12; tick++) {
            w.ticks(1);
            w.up(1, true);
            due("odds(0, 1) at " + tick, w.odds(0, 1), 1);
            due("odds(1, 400) at " + tick, w.odds(1, 400), 1);
            w.up(1, false);
        }
        // Those that crash with one another take along who is there at that very TICK, and nobody later.
        PassScreener x = Kit.skyOf("gap 0 size 0;" + ringOf(90, 0, 0, 0));
        due("odds(0, 1) where two crash", x.odds(0, 1), 3);
        due("odds(0, 400) where two crash", x.odds(0, 400), 3);
        by(34, "NONE when n can't be, it is down, or there is none such.");
        for (int n : new int[] {0, -1, 401, MAX, MIN}) {
            due("odds(0, " + n + ")", s.odds(0, n), NONE);
        }
        for (int body : NO_BODY) {
            due("odds(" + body + ", 1)", s.odds(body, 1), NONE);
        }
        s.up(0, false);
        due("odds(0, 1): it is down", s.odds(0, 1), NONE);
        due("odds(1, 400): alone", s.odds(1, 400), 47);
    }

    private void saved(PassScreener s, int body, int... due) {
        for (int what = 0; what < 3; what++) {
            due("saves(" + body + ", " + what + ")", s.saves(body, what), due[what]);
        }
    }

    private void saves() {
        by(0, "it SAVES a BODY, if that does not CRASH in 400 TICKS AHEAD then");
        // A PHASE more leads to a meeting at 446, one less to one at 352.
        PassScreener s = meetingAt(399, 9);
        saved(s, 0, 0, 1, 1);
        due("burn(0, 0, 1)", s.burn(0, 0, 1), 8);
        due("doom(0)", s.doom(0), 447);
        s.undo();
        s.burn(0, 0, 47);
        due("doom(0)", s.doom(0), 353);
        // Two steps more lead out of 400; one more, or one less, does not.
        saved(s, 0, 0, 2, 2);
        by(35, "NONE when there is none, it does not CRASH in 400 TICKS AHEAD, it is down, there is none such, or for "
                + "others.");
        saved(meetingAt(399, 0), 0, NONE, NONE, NONE);
        PassScreener t = meetingAt(400, 9);
        due("doom(0)", t.doom(0), 401);
        saved(t, 0, NONE, NONE, NONE);
        saved(t, 1, NONE, NONE, NONE);
        t.ticks(1);
        due("doom(0) a TICK later", t.doom(0), 400);
        due("saves(0, 0) a TICK later", t.saves(0, 0), 0);
        for (int body : NO_BODY) {
            saved(t, body, NONE, NONE, NONE);
        }
        for (int what : new int[] {-1, 3, MAX, MIN}) {
            due("saves(0, " + what + ")", t.saves(0, what), NONE);
        }
        t.up(1, false);
        saved(t, 0, NONE, NONE, NONE);
        t.up(1, true);
        t.up(0, false);
        saved(t, 0, NONE, NONE, NONE);
        due("body(0, 7): nothing is done", t.body(0, 7), 9);
    }

    private void savesChoice() {
        by(0, "The CHEAPEST of BURNS costs least; of like ones by BODY, KIND, d.");
        // On a ring of 4 with others at both steps beside it: two steps, d 2, cost 2, as do heights; KIND 0 is first.
        String ring = Kit.body("a", 4, 4, 4, 0, 0, 0, 0, 9) + Kit.body("b", 4, 4, 4, 0, 0, 0, 0, 9)
                + Kit.body("c", 4, 4, 4, 1, 0, 0, 0, 9) + Kit.body("d", 4, 4, 4, 3, 0, 0, 0, 9);
        saved(Kit.skyOf("gap 0 size 0;" + ring), 0, 0, 2, 2);
        // With the last step taken as well a height of 1 more is next, ahead of 1 less.
        String full = ring + Kit.body("e", 4, 4, 4, 2, 0, 0, 0, 9);
        saved(Kit.skyOf("gap 0 size 0;" + full), 0, 2, 1, 2);
        // At 200 it can't go up.
        String high = full.replace("low 4 high 4", "low 200 high 200");
        saved(Kit.skyOf("gap 0 size 0;" + high), 0, 3, 1, 2);
        // By SIZE 3 a height of 4 more is needed, 8 of FUEL: a TILT is no use, one step being on the line of x.
        saved(Kit.skyOf("gap 0 size 3;" + full), 0, 2, 4, 8);
        saved(Kit.skyOf("gap 0 size 3;" + full.replaceFirst("fuel 9", "fuel 8")), 0, 2, 4, 8);
        saved(Kit.skyOf("gap 0 size 3;" + full.replaceFirst("fuel 9", "fuel 7")), 0, NONE, NONE, NONE);
        // A step more leads to two that crash with one another at that very TICK: one less is free.
        saved(Kit.skyOf("gap 0 size 0;" + ringOf(90, 0, 0, 1, 1)), 0, 0, 3, 1);
        // The last of eight steps is taken by the first BODY, the second one by the third.
        StringBuilder eight = new StringBuilder("gap 0 size 0;");
        int[] phases = {7, 0, 1, 0};
        for (int k = 0; k < 4; k++) {
            eight.append(Kit.body(String.valueOf((char) ('a' + k)), 90, 90, 8, phases[k], 0, 0, 0, 9));
        }
        saved(Kit.skyOf(eight.toString()), 3, 0, 2, 2);
        saved(Kit.skyOf(eight.toString()), 1, 0, 2, 2);
    }

    /** One sky for each KIND but the first, in which it is the cheapest. */
    private void savesByEachKind() {
        by(35, "The CHEAPEST BURN of a BODY that SAVES it: 0 KIND, 1 d, 2 what it costs.");
        saved(skyBy(5, 2, new int[] {1, 6, 7, 2, 4, 8, 2, 30}, new int[] {4, 7, 6, 0, 4, 0, 2, 0}), 0, 1, 5, 2);
        saved(skyBy(7, 5, new int[] {4, 7, 2, 0, 1, 5, 1, 30}, new int[] {1, 3, 6, 0, 4, 7, 3, 0}), 0, 2, 3, 6);
        saved(skyBy(2, 2, new int[] {2, 3, 5, 0, 4, 9, 0, 30}, new int[] {5, 8, 7, 1, 1, 1, 2, 0}), 0, 3, 1, 2);
        saved(skyBy(5, 2, new int[] {2, 3, 4, 0, 1, 7, 1, 30}, new int[] {2, 8, 3, 2, 0, 2, 0, 0}), 0, 4, 2, 6);
        saved(skyBy(1, 4, new int[] {3, 5, 4, 2, 2, 9, 2, 30}, new int[] {6, 9, 6, 2, 2, 8, 0, 0}), 0, 5, 1, 3);
    }

    private void aheadOfTheLastTick() {
        by(0, "AHEAD are TICKS that go from now on, nothing else being done (beyond 9999, too).");
        // At 9999 they are 3 TICKS ahead of where they meet: 10002 is the fourth one.
        PassScreener s = meetingAt(10002, 9);
        s.up(0, false);
        for (int k = 0; k < 10; k++) {
            s.ticks(999);
        }
        due("ticks(9)", s.ticks(9), 9999);
        s.up(0, true);
        due("doom(0)", s.doom(0), 4);
        due("stays(3)", s.stays(3), 3);
        due("stays(4)", s.stays(4), 0);
        due("odds(0, 3)", s.odds(0, 3), 48);
        due("odds(0, 4)", s.odds(0, 4), 47);
        due("next(0)", s.next(0), 10002);
        // A PHASE more leads to a meeting 47 TICKS later, one less to one 47 earlier, which is over.
        saved(s, 0, 0, 47, 1);
        due("far(0, 1, 10002)", s.far(0, 1, 10002), NONE);
        due("has(3): nothing is done", s.has(3), 9999);
        due("has(1): nothing is done", s.has(1), 2);
    }

    private void manyCalls() {
        by(0, "An object is used for at most 512 calls after it has been made");
        PassScreener s = new PassScreener();
        Kit.tape(s, ("gap 0 size 0;" + shuttle("a", 10, 0, 9) + shuttle("b", 10, 0, 9)).chars().toArray());
        s.sky();
        for (int call = 0; call < 480; call += 3) {
            due("up(0, false)", s.up(0, false), true);
            due("ticks(1)", s.ticks(1), call / 3 + 1);
            due("up(0, true)", s.up(0, true), true);
        }
        due("ticks(1)", s.ticks(1), 161);
        due("kept(0, 0)", s.kept(0, 0), 160);
    }
}
