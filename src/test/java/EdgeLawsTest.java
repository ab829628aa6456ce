/** Boundary cases of promises 5 to 8 and of LAWS in 'Terms': each sentence has a test of its own. */
public final class EdgeLawsTest {
    private static final int NONE = -1, OUTSIDE = -1002, FULL = -1004;
    private static final int CANNOT_STAND = 1, BAD_NUMBER = 2, TOLD_TWICE = 3;
    private static final String[] WORDS = {"sharp", "far", "lean", "tire", "line", "most", "patience", "sure"};
    private static final int[] FIRST = {90, 60, 30, 5, 90, 8, 3, 95};
    private static final int[] MIDDLE = {50, 50, 50, 50, 50, 4, 5, 50};
    private static final String ALL = "sharp 1; far 2; lean 3; tire 4; line 55; most 6; patience 7; sure 88;";
    private static final Check check = new Check();
    private static final Edges edges = new Edges(check);

    public static void main(String[] args) {
        oneHundredSixtyBytes();
        boundsOfLaws();
        eachOnce();
        whatIsNotTold();
        figuresOfNumbers();
        lettersOfWords();
        blanks();
        blanksWithin();
        firstByteWithAFault();
        endOfTheText();
        leastOfFaults();
        whatCannotStand();
        badNumbers();
        toldAlready();
        emptyTexts();
        lowestBytes();
        feedIsRefused();
        howManyClauses();
        theTextIsEmptyThen();
        lawsAreAsTheyWere();
        placeOfTheFault();
        lawIsRefused();
        check.end();
    }

    private static void oneHundredSixtyBytes() {
        check.sentence("LAWS are a text (160 bytes at most)");
        LooksByMany x = new LooksByMany();
        check.due("the 160th byte", Make.text(x, " ".repeat(152) + "far 123;"), 160);
        check.due("the 161st", x.feed(1, ' '), FULL);
        check.due("count(6)", x.count(6), 160);
        check.due("the last bytes are read", x.read(), -12);
        check.due("the place of these", x.fault(), 156);
        check.due("a text of 160 bytes that tells all", Make.laws(x, " ".repeat(160 - ALL.length()) + ALL), 8);
        laws(x, 1, 2, 3, 4, 55, 6, 7, 88);
    }

    private static void boundsOfLaws() {
        law("'sharp' (0 .. 100; at first 90)", 0, 0, 100, 90);
        law("'far' (0 .. 100; 60)", 1, 0, 100, 60);
        law("'lean' (0 .. 100; 30)", 2, 0, 100, 30);
        law("'tire' (0 .. 99; 5)", 3, 0, 99, 5);
        law("'line' (34 .. 99; 90)", 4, 34, 99, 90);
        law("'most' (1 .. 8; 8)", 5, 1, 8, 8);
        law("'patience' (1 .. 9; 3)", 6, 1, 9, 3);
        law("'sure' (34 .. 99; 95)", 7, 34, 99, 95);
    }

    private static void law(String sentence, int what, int least, int most, int first) {
        check.sentence(sentence);
        LooksByMany x = new LooksByMany();
        String word = WORDS[what];
        check.due("at first", x.law(what), first);
        check.due("read of the least", Make.laws(x, word + least + ";"), 1);
        check.due("the least", x.law(what), least);
        check.due("read of the greatest", Make.laws(x, word + most + ";"), 1);
        check.due("the greatest", x.law(what), most);
        check.due("read of one more", Make.laws(x, word + (most + 1) + ";"), -12);
        check.due("the place of it", x.fault(), word.length());
        if (least > 0) {
            check.due("read of one less", Make.laws(x, word + (least - 1) + ";"), -12);
            check.due("the place of it", x.fault(), word.length());
        }
        check.due("read of 999", Make.laws(x, word + "999;"), -12);
        check.due("the greatest is still law", x.law(what), most);
        check.due("read of nothing", x.read(), 0);
        check.due("as at first", x.law(what), first);
    }

    private static void eachOnce() {
        check.sentence("clauses word N ';' each once");
        check.due("all eight", Make.laws(new LooksByMany(), ALL), 8);
        for (int what = 0; what < WORDS.length; what++) {
            fault(clause(what) + clause(what), TOLD_TWICE, clause(what).length());
            fault(ALL + clause(what), TOLD_TWICE, ALL.length());
        }
    }

    private static void whatIsNotTold() {
        check.sentence("What a text does not tell is as at first.");
        for (int what = 0; what < WORDS.length; what++) {
            LooksByMany x = new LooksByMany();
            Make.laws(x, ALL);
            check.due("read of one clause", Make.laws(x, clause(what)), 1);
            int[] due = FIRST.clone();
            due[what] = MIDDLE[what];
            laws(x, due);
        }
    }

    private static void figuresOfNumbers() {
        check.sentence("NUMBERS have one to three figures");
        taken("far 7;", 1, 7);
        taken("far 07;", 1, 7);
        taken("far 007;", 1, 7);
        taken("far 000;", 1, 0);
        taken("far 100;", 1, 100);
        taken("far 9;", 1, 9);
        fault("far 0007;", BAD_NUMBER, 4);
        fault("far 0000;", BAD_NUMBER, 4);
        fault("far ;", CANNOT_STAND, 4);
        // '/' and ':' stand just beside the figures
        fault("far /;", CANNOT_STAND, 4);
        fault("far :;", CANNOT_STAND, 4);
        fault("far 5/;", CANNOT_STAND, 5);
        fault("far 5:;", CANNOT_STAND, 5);
    }

    private static void lettersOfWords() {
        check.sentence("words are letters a .. z side by side");
        fault("`", CANNOT_STAND, 0);
        fault("{", CANNOT_STAND, 0);
        fault("far{ 5;", CANNOT_STAND, 3);
        fault("far` 5;", CANNOT_STAND, 3);
        fault(" fara 5;", CANNOT_STAND, 1);
        fault(" farz 5;", CANNOT_STAND, 1);
        fault(" zfar 5;", CANNOT_STAND, 1);
        fault("Far 5;", CANNOT_STAND, 0);
        fault("faR 5;", CANNOT_STAND, 0);
        fault("farR 5;", CANNOT_STAND, 3);
        fault("f\u00e1r 5;", CANNOT_STAND, 0);
        taken("far5;", 1, 5);
    }

    private static void blanks() {
        check.sentence("blanks (32) may stand anywhere");
        taken("far5;", 1, 5);
        taken(" far5;", 1, 5);
        taken("far 5;", 1, 5);
        taken("far5 ;", 1, 5);
        taken("far5; ", 1, 5);
        taken("   far   5   ;   ", 1, 5);
        LooksByMany x = new LooksByMany();
        check.due("read of blanks between clauses", Make.laws(x, "far5;   lean6;lean"), -13);
        check.due("fault", x.fault(), 14);
        for (char sign : new char[] {0, 9, 10, 13, 31, 33, 160, 255}) {
            fault(sign + "far5;", CANNOT_STAND, 0);
            fault("far" + sign + "5;", CANNOT_STAND, 3);
            fault("far5" + sign + ";", CANNOT_STAND, 4);
            fault("far5;" + sign, CANNOT_STAND, 5);
        }
    }

    private static void blanksWithin() {
        check.sentence("but within words and NUMBERS");
        fault("fa r 5;", CANNOT_STAND, 0);
        fault("f ar 5;", CANNOT_STAND, 0);
        fault("far 5 0;", CANNOT_STAND, 6);
        fault("far 10 0;", CANNOT_STAND, 7);
    }

    private static void firstByteWithAFault() {
        check.sentence("FAULTS, at the first byte that has one");
        fault("x far 999;far 1;", CANNOT_STAND, 0);
        fault("far 999;x far 1;", BAD_NUMBER, 4);
        fault("far 99;far 999;x", TOLD_TWICE, 7);
        fault("far 99;lean 999x", BAD_NUMBER, 12);
        fault("far 99 x 999;", CANNOT_STAND, 7);
        fault("far 5; far 999x", TOLD_TWICE, 7);
        fault("line 3 3;", BAD_NUMBER, 5);
        fault("far 0005x;", BAD_NUMBER, 4);
    }

    private static void endOfTheText() {
        check.sentence("(the end at the text's length)");
        fault("far", CANNOT_STAND, 3);
        fault("far ", CANNOT_STAND, 4);
        fault("far 5", CANNOT_STAND, 5);
        fault("far 5   ", CANNOT_STAND, 8);
        fault("far 5;lean", CANNOT_STAND, 10);
        fault(" ".repeat(157) + "far", CANNOT_STAND, 160);
        fault(" ".repeat(156) + "far5", CANNOT_STAND, 160);
        fault("far5" + " ".repeat(156), CANNOT_STAND, 160);
        // a word or a number that ends the text has its own fault first
        fault("fa", CANNOT_STAND, 0);
        fault("far 101", BAD_NUMBER, 4);
        fault("far 5;far", TOLD_TWICE, 6);
    }

    private static void leastOfFaults() {
        check.sentence("of these the least");
        // a number that cannot stand and has four figures; one that would be out of all bounds
        fault("5000;", CANNOT_STAND, 0);
        fault("far 5 6000;", CANNOT_STAND, 6);
        fault("far 5;999;", CANNOT_STAND, 6);
        // a word that cannot stand and was told already
        fault("far 5;lean far 6;", CANNOT_STAND, 11);
        fault("far 5;lean 6 far 7;", CANNOT_STAND, 13);
        // a number of four figures that is out of its bounds, too, is one fault alone
        fault("far 1000;", BAD_NUMBER, 4);
    }

    private static void whatCannotStand() {
        check.sentence("1 it cannot stand there (a word that cannot: at its first letter)");
        fault(";", CANNOT_STAND, 0);
        fault("5;", CANNOT_STAND, 0);
        fault("far;", CANNOT_STAND, 3);
        fault("far 5;;", CANNOT_STAND, 6);
        fault("far -5;", CANNOT_STAND, 4);
        fault("far far 5;", CANNOT_STAND, 4);
        fault("far sharp;", CANNOT_STAND, 4);
        fault("far 5far;", CANNOT_STAND, 5);
        fault("far 5 lean 6;", CANNOT_STAND, 6);
        fault("fa 5;", CANNOT_STAND, 0);
        fault("farr 5;", CANNOT_STAND, 0);
        fault("far 5;  patienc 5;", CANNOT_STAND, 8);
        fault("far 5;  patiences 5;", CANNOT_STAND, 8);
        fault("far x5;", CANNOT_STAND, 4);
        fault("far 5;sharp 5;f", CANNOT_STAND, 14);
        fault("gar 5;", CANNOT_STAND, 0);
        fault("a", CANNOT_STAND, 0);
        fault("s", CANNOT_STAND, 0);
        fault("z", CANNOT_STAND, 0);
        fault("\u0000", CANNOT_STAND, 0);
        fault("\u00ff", CANNOT_STAND, 0);
    }

    private static void badNumbers() {
        check.sentence("2 a NUMBER of four figures or more, or out of its bounds (at its first)");
        fault("far 0100;", BAD_NUMBER, 4);
        fault("far  00000;", BAD_NUMBER, 5);
        fault("far 101;", BAD_NUMBER, 4);
        fault("far 999;", BAD_NUMBER, 4);
        fault("line 033;", BAD_NUMBER, 5);
        fault("line0;", BAD_NUMBER, 4);
        // 4294967301 is 5 and 2 to the 32, 18446744073709551621 is 5 and 2 to the 64
        fault("far 4294967301;", BAD_NUMBER, 4);
        fault("far 18446744073709551621;", BAD_NUMBER, 4);
        fault("far " + "9".repeat(156), BAD_NUMBER, 4);
        fault("far " + "0".repeat(155) + ";", BAD_NUMBER, 4);
    }

    private static void toldAlready() {
        check.sentence("3 a clause that was told already (at its first letter)");
        fault("far 5;far 5;", TOLD_TWICE, 6);
        fault("far 5;  far 6;", TOLD_TWICE, 8);
        fault("far 5;lean 6;far 5;", TOLD_TWICE, 13);
        fault("far 5;lean 6;lean 6;", TOLD_TWICE, 13);
        fault("far 60;far 60;", TOLD_TWICE, 7);
        // 0 is told, too
        fault("far 0;far 0;", TOLD_TWICE, 6);
        LooksByMany x = new LooksByMany();
        Make.laws(x, "far 5;");
        check.due("what an earlier text told was not told already", Make.laws(x, "far 6;"), 1);
        Make.laws(x, "lean 5; x");
        check.due("nor what a text with a fault told", Make.laws(x, "lean 6;"), 1);
    }

    private static void emptyTexts() {
        check.sentence("An empty text (or one of blanks alone) has no FAULT: all is as at first.");
        for (String text : new String[] {"", " ", "     ", " ".repeat(160)}) {
            LooksByMany x = new LooksByMany();
            Make.laws(x, ALL);
            check.due("read of " + text.length() + " blanks", Make.laws(x, text), 0);
            check.due("fault", x.fault(), NONE);
            laws(x, FIRST);
        }
        LooksByMany y = new LooksByMany();
        check.due("read of a new object", y.read(), 0);
        check.due("fault", y.fault(), NONE);
        laws(y, FIRST);
    }

    private static void lowestBytes() {
        check.sentence("The n lowest bytes (n 1 .. 8) of a long, the highest of these first, come behind THE TEXT: "
                + "how many it has.");
        LooksByMany x = new LooksByMany();
        check.due("eight bytes: 'sharp 7;'", x.feed(8, 0x736861727020373BL), 8);
        check.due("read", x.read(), 1);
        check.due("law(0)", x.law(0), 7);
        check.due("three of them: 'far'", x.feed(3, 0xFFFFFFFFFF666172L), 3);
        check.due("one of them: '5'", x.feed(1, 0x3B3B3B3B3B3B3B35L), 4);
        check.due("one of them, below 0: ';'", x.feed(1, -0xC5L), 5);
        check.due("read", x.read(), 1);
        check.due("law(1)", x.law(1), 5);
        check.due("the least long", x.feed(8, Long.MIN_VALUE), 8);
        check.due("read of bytes 128, 0 ..", x.read(), -11);
        check.due("fault", x.fault(), 0);
        check.due("all bytes 255", x.feed(7, -1L), 7);
        check.due("read", x.read(), -11);
        check.due("blanks and a byte 0 behind", x.feed(2, 0x2000L), 2);
        check.due("read", x.read(), -11);
        check.due("fault", x.fault(), 1);
    }

    private static void feedIsRefused() {
        check.sentence("come behind THE TEXT: how many it has. OUTSIDE, FULL.");
        edges.bounds("n of feed", Make::something, 1, 8, OUTSIDE, (x, n) -> x.feed(n, 0x2020202020202020L));
        edges.refused("a 161st byte", Make::fullOfText, FULL, x -> x.feed(1, ' '));
        edges.refused("eight more", Make::fullOfText, FULL, x -> x.feed(8, ' '));
        edges.refused("n 0 when full", Make::fullOfText, OUTSIDE, x -> x.feed(0, ' '));
        edges.refused("n 9 when full", Make::fullOfText, OUTSIDE, x -> x.feed(9, ' '));
        for (int n = 1; n <= 8; n++) {
            LooksByMany x = new LooksByMany();
            Make.text(x, " ".repeat(161 - n));
            check.due(n + " bytes behind " + (161 - n), x.feed(n, 0x2020202020202020L), FULL);
            check.due("count(6)", x.count(6), 161 - n);
            LooksByMany y = new LooksByMany();
            Make.text(y, " ".repeat(160 - n));
            check.due(n + " bytes behind " + (160 - n), y.feed(n, 0x2020202020202020L), 160);
        }
    }

    private static void howManyClauses() {
        check.sentence("becomes LAWS: how many clauses");
        StringBuilder text = new StringBuilder();
        for (int clauses = 0; clauses <= 8; clauses++) {
            check.due("read of '" + text + "'", Make.laws(new LooksByMany(), text.toString()), clauses);
            text.append(clauses < 8 ? clause(clauses) : "");
        }
    }

    private static void theTextIsEmptyThen() {
        check.sentence("THE TEXT (it is empty then, with a FAULT, too)");
        LooksByMany x = new LooksByMany();
        check.due("read", Make.laws(x, "lean 5;"), 1);
        check.due("count(6)", x.count(6), 0);
        check.due("feed behind it", Make.text(x, "lean 6"), 6);
        check.due("read: the ';' of the text before is gone", x.read(), -11);
        check.due("fault", x.fault(), 6);
        check.due("count(6) after a fault", x.count(6), 0);
        check.due("feed behind that", Make.text(x, ";"), 1);
        check.due("read: what the text before told is gone", x.read(), -11);
        check.due("fault", x.fault(), 0);
        Make.text(x, " ".repeat(160));
        x.read();
        check.due("160 bytes fit again", Make.text(x, " ".repeat(160)), 160);
    }

    private static void lawsAreAsTheyWere() {
        check.sentence("-10 less the number of its FAULT (LAWS are as they were)");
        String[] bad = {"sharp 5; x", "sharp 5; far 101;", "sharp 5; sharp 6;"};
        for (int i = 0; i < bad.length; i++) {
            LooksByMany x = new LooksByMany();
            Make.laws(x, "sharp 1; sure 50;");
            check.due("read of '" + bad[i] + "'", Make.laws(x, bad[i]), -11 - i);
            laws(x, 1, 60, 30, 5, 90, 8, 3, 50);
        }
    }

    private static void placeOfTheFault() {
        check.sentence("The place (from 0 on) of the byte that has the FAULT of the latest read(); NONE.");
        LooksByMany x = new LooksByMany();
        check.due("before any read", x.fault(), NONE);
        Make.text(x, "x");
        check.due("before the text is read", x.fault(), NONE);
        x.read();
        check.due("at the first byte", x.fault(), 0);
        Make.text(x, " ".repeat(159) + "x");
        check.due("of the latest read still", x.fault(), 0);
        x.read();
        check.due("at the last byte", x.fault(), 159);
        Make.laws(x, "far" + " ".repeat(157));
        check.due("at the end of the longest text", x.fault(), 160);
        x.read();
        check.due("after a text without a fault", x.fault(), NONE);
    }

    private static void lawIsRefused() {
        check.sentence("Of LAWS: what = 0 sharp .. 7 sure, in the order told. OUTSIDE.");
        edges.bounds("what of law", Make::something, 0, 7, OUTSIDE, LooksByMany::law);
        LooksByMany x = new LooksByMany();
        Make.laws(x, ALL);
        laws(x, 1, 2, 3, 4, 55, 6, 7, 88);
    }

    private static String clause(int what) {
        return WORDS[what] + MIDDLE[what] + ";";
    }

    private static void laws(LooksByMany x, int... due) {
        edges.answers("law", 0, x::law, due);
    }

    private static void taken(String text, int law, int value) {
        LooksByMany x = new LooksByMany();
        check.due("read of '" + text + "'", Make.laws(x, text), 1);
        check.due("law(" + law + ") by '" + text + "'", x.law(law), value);
        check.due("fault of '" + text + "'", x.fault(), NONE);
    }

    private static void fault(String text, int number, int place) {
        LooksByMany x = new LooksByMany();
        check.due("read of '" + text + "'", Make.laws(x, text), -10 - number);
        check.due("fault of '" + text + "'", x.fault(), place);
        laws(x, FIRST);
    }
}
