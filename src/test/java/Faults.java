/** Promises 4 and 5: which text has which fault, and where. */
final class Faults {
    private static final String GAP = "gap 1 size 2;";
    private static final String REST = " low 5 high 9 turn 4 phase 1 lift 2 tilt 3 node 2 fuel 7;";
    private static final Kit KIT = new Kit();
    private static final PassScreener SCREENER = new PassScreener();

    private Faults() {
    }

    private static void fault(String text, int kind, int place) {
        PassScreener screener = new PassScreener();
        KIT.due("sky() of <" + text + ">", Kit.tell(screener, text), PassScreener.NONE);
        KIT.due("fault(0) of <" + text + ">", screener.fault(0), kind);
        KIT.due("fault(1) of <" + text + ">", screener.fault(1), place);
        KIT.due("status(1) of <" + text + ">", screener.status(1), 1);
        KIT.due("has(0) of <" + text + ">", screener.has(0), 0);
    }

    private static void fine(String text, int statements) {
        PassScreener screener = new PassScreener();
        KIT.due("sky() of <" + text + ">", Kit.tell(screener, text), statements);
        KIT.due("fault(0) of <" + text + ">", screener.fault(0), 0);
        KIT.due("fault(1) of <" + text + ">", screener.fault(1), PassScreener.NONE);
        KIT.due("has(0) of <" + text + ">", screener.has(0), statements - 1);
    }

    public static void main(String[] args) {
        KIT.due("fault(0) ahead of any", SCREENER.fault(0), 0);
        KIT.due("fault(1) ahead of any", SCREENER.fault(1), PassScreener.NONE);
        KIT.due("fault(2)", SCREENER.fault(2), PassScreener.NONE);
        KIT.due("fault(-1)", SCREENER.fault(-1), PassScreener.NONE);
        textsWithoutFault();
        textsThatDontGoOn();
        textsThatEndTooSoon();
        numbers();
        names();
        tooMany();
        KIT.close();
    }

    private static void textsWithoutFault() {
        fine(GAP, 1);
        fine("gap 0 size 0;", 1);
        fine("gap 99 size 20;", 1);
        fine("gap 099 size 002;", 1);
        fine("\n gap\n\n1 size 2 \n; \n", 1);
        fine(GAP + "body a" + REST, 2);
        fine(GAP + "body abcdef" + REST + "body gaps" + REST + "\n\n  body lows" + REST + "\n", 4);
        fine(GAP + Kit.body("a", 1, 1, 2, 0, 0, 0, 0, 0) + Kit.body("b", 200, 200, 48, 47, 47, 16, 3, 99), 3);
        fine(GAP + Kit.body("z", 1, 200, 2, 1, 1, 16, 3, 99), 2);
        StringBuilder ten = new StringBuilder(GAP);
        for (char name = 'a'; name < 'k'; name++) {
            ten.append("body ").append(name).append(REST);
        }
        fine(ten.toString(), 11);
    }

    private static void textsThatDontGoOn() {
        fault("x", 1, 0);
        fault(";", 1, 0);
        fault("Gap 1 size 2;", 1, 0);
        fault("gapp 1 size 2;", 1, 0);
        fault("ga p 1 size 2;", 1, 0);
        fault("size 2 gap 1;", 1, 0);
        fault("body a" + REST, 1, 0);
        fault("\tgap 1 size 2;", 1, 0);
        fault("\rgap 1 size 2;", 1, 0);
        fault(" 5", 1, 1);
        fault("gap1 size 2;", 1, 3);
        fault("gap 1size 2;", 1, 5);
        fault("gap 1 size2;", 1, 10);
        fault("gap -1 size 2;", 1, 4);
        fault("gap x size 2;", 1, 4);
        fault("gap 1 gap 2;", 1, 6);
        fault("gap 1 sizes 2;", 1, 6);
        fault("gap 1 size 2 3;", 1, 13);
        fault("gap 1;size 2;", 1, 5);
        fault("gap 1 size 2;;", 1, 13);
        fault(GAP + "gap 1 size 2;", 1, 13);
        fault(GAP + "\nbodies a" + REST, 1, 14);
        fault(GAP + "7", 1, 13);
        fault(GAP + "body a" + REST + GAP, 1, 13 + 6 + REST.length());
        fault(GAP + "body a high 9", 1, 20);
        fault(GAP + "body a low 5 turn", 1, 26);
        fault(GAP + "body a low 5high 9", 1, 25);
        fault(GAP + "body a low5", 1, 23);
        fault(GAP + "body a1 low", 1, 19);
        fault(GAP + "body a" + REST.replace(";", " node 1;"), 1, 13 + 6 + REST.length());
        fault("gap 1 size 2" + (char) 0xff + ";", 1, 12);
        fault("gap 1 size 2" + (char) 0 + ";", 1, 12);
    }

    private static void textsThatEndTooSoon() {
        fault("", 1, 0);
        fault(" \n ", 1, 3);
        fault("gap", 1, 3);
        fault("gap ", 1, 4);
        fault("gap 1", 1, 5);
        fault("gap 1 size", 1, 10);
        fault("gap 1 size 2", 1, 12);
        fault("gap 1 size 2 \n", 1, 14);
        fault("ga", 1, 0);
        fault(GAP + "body", 1, 17);
        fault(GAP + "bod", 1, 13);
        fault(GAP + "body ", 1, 18);
        fault(GAP + "body a", 1, 19);
        fault(GAP + "body a low 5 high 9 turn 4 phase 1 lift 2 tilt 3 node 2 fuel", 1, 13 + 6 + REST.length() - 3);
        fault(GAP + "body a" + REST.replace(";", ""), 1, 13 + 6 + REST.length() - 1);
    }

    private static void number(String word, String value, int kind, int into) {
        String text = GAP + "body a" + REST;
        int at = text.indexOf(" " + word + " ") + word.length() + 2;
        int end = text.substring(at).indexOf(word.equals("fuel") ? ";" : " ") + at;
        String spoilt = text.substring(0, at) + value + text.substring(end);
        if (kind == 0) {
            fine(spoilt, 2);
        } else {
            fault(spoilt, kind, at + into);
        }
    }

    private static void numbers() {
        fault("gap 100 size 2;", 2, 4);
        fault("gap 100x", 2, 4);
        fault("gap 1000 size 2;", 1, 7);
        fault("gap 0001 size 2;", 1, 7);
        fault("gap 12345", 1, 7);
        fault("gap 9 size 21;", 2, 11);
        fault("gap 9 size 21", 2, 11);
        fault("gap 9 size 2100;", 1, 14);
        number("low", "0", 2, 0);
        number("low", "1", 0, 0);
        number("low", "9", 0, 0);
        number("low", "201", 2, 0);
        number("high", "4", 2, 0);
        number("high", "5", 0, 0);
        number("high", "200", 0, 0);
        number("high", "201", 2, 0);
        number("turn", "1", 2, 0);
        number("turn", "3", 0, 0);
        number("turn", "48", 0, 0);
        number("turn", "49", 2, 0);
        number("phase", "3", 0, 0);
        number("phase", "4", 2, 0);
        number("lift", "3", 0, 0);
        number("lift", "4", 2, 0);
        number("tilt", "16", 0, 0);
        number("tilt", "17", 2, 0);
        number("node", "3", 0, 0);
        number("node", "4", 2, 0);
        number("fuel", "99", 0, 0);
        number("fuel", "100", 2, 0);
        number("fuel", "0099", 1, 3);
        number("fuel", "x", 1, 0);
    }

    private static void names() {
        int second = 13 + 6 + REST.length() + 5;
        fault(GAP + "body abcdefg" + REST, 1, 24);
        fault(GAP + "body abcdefghijk", 1, 24);
        for (String own : new String[] {"gap", "size", "body", "low", "high", "turn", "phase", "lift", "tilt", "node",
            "fuel"}) {
            fault(GAP + "body " + own + REST, 1, 18);
        }
        fault(GAP + "body bodygap" + REST, 1, 24);
        fault(GAP + "body A" + REST, 1, 18);
        fault(GAP + "body 1" + REST, 1, 18);
        fault(GAP + "body ;", 1, 18);
        fault(GAP + "body a" + REST + "body a" + REST, 3, second);
        fault(GAP + "body a" + REST + "body a", 3, second);
        fault(GAP + "body abcdef" + REST + "body abcdefg", 1, second + 5 + 6);
        fine(GAP + "body a" + REST + "body aa" + REST + "body b" + REST, 4);
    }

    private static void tooMany() {
        StringBuilder ten = new StringBuilder(GAP);
        for (char name = 'a'; name < 'k'; name++) {
            ten.append("body ").append(name).append(REST);
        }
        fault(ten + "body k" + REST, 5, ten.length());
        fault(ten + "\n body", 5, ten.length() + 2);
        fault(ten + "body low", 5, ten.length());
        fault(ten + "bodya", 1, ten.length());
        fault(ten + ";", 1, ten.length());
        fine(ten + " \n", 11);
    }
}
