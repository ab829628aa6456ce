/** Promises 5 to 8: texts fed and read as laws, their faults, and what laws tell. */
public final class LawsTest {
    private static final int NONE = -1, OUTSIDE = -1002, FULL = -1004;
    private static final String[] WORDS = {"sharp", "far", "lean", "tire", "line", "most", "patience", "sure"};
    private static final int[] FIRST = {90, 60, 30, 5, 90, 8, 3, 95};
    private static final int[] LEAST = {0, 0, 0, 0, 34, 1, 1, 34};
    private static final int[] GREATEST = {100, 100, 100, 99, 99, 8, 9, 99};
    private static final Check check = new Check();

    public static void main(String[] args) {
        bytesComeHighestFirst();
        feedIsRefused();
        theTextIsOneHundredSixtyBytes();
        aTextBecomesLaws();
        emptyTextsAreAsAtFirst();
        boundsOfEachLaw();
        blanksMayStand();
        faultsOne();
        faultsTwo();
        faultsThree();
        theFirstFaultIsTold();
        aFaultLeavesLaws();
        whatWasReadIsGone();
        lawsAreRefused();
        check.end();
    }

    private static void bytesComeHighestFirst() {
        LooksByMany x = new LooksByMany();
        check.due("feed of 'far 7;'", x.feed(6, 0x66617220373BL), 6);
        check.due("read", x.read(), 1);
        check.due("law(1)", x.law(1), 7);
        // only the lowest bytes count: what stands above them is cut off
        check.due("feed of 'mos', with more above", x.feed(3, 0x7A7A7A7A7A6D6F73L), 3);
        check.due("feed of 't2;'", x.feed(3, 0x74323BL), 6);
        check.due("read of two feeds", x.read(), 1);
        check.due("law(5)", x.law(5), 2);
        check.due("feed of a negative long", x.feed(8, -1L), 8);
        check.due("read of bytes 255", x.read(), -11);
        check.due("fault", x.fault(), 0);
    }

    private static void feedIsRefused() {
        LooksByMany x = new LooksByMany();
        check.due("feed(0, ..)", x.feed(0, 65), OUTSIDE);
        check.due("feed(9, ..)", x.feed(9, 65), OUTSIDE);
        check.due("feed(-1, ..)", x.feed(-1, 65), OUTSIDE);
        check.due("count(6)", x.count(6), 0);
    }

    private static void theTextIsOneHundredSixtyBytes() {
        LooksByMany x = new LooksByMany();
        for (int i = 1; i <= 19; i++) {
            check.due("feed " + i, x.feed(8, 0x2020202020202020L), 8 * i);
        }
        check.due("feed(7)", x.feed(7, 0x20202020202020L), 159);
        check.due("two more than fit", x.feed(2, 0x2020L), FULL);
        check.due("outside when full", x.feed(9, 0x2020L), OUTSIDE);
        check.due("count(6) is as it was", x.count(6), 159);
        check.due("the last that fits", x.feed(1, 0x3BL), 160);
        check.due("one more", x.feed(1, 0x20L), FULL);
        check.due("read", x.read(), -11);
        check.due("fault at the last byte", x.fault(), 159);
        check.due("the text is empty then", x.count(6), 0);
        check.due("feed again", x.feed(1, 0x20L), 1);
    }

    private static void aTextBecomesLaws() {
        LooksByMany x = new LooksByMany();
        String all = "sharp 1; far 2; lean 3; tire 4; line 55; most 6; patience 7; sure 88;";
        check.due("read of all eight", Make.laws(x, all), 8);
        int[] due = {1, 2, 3, 4, 55, 6, 7, 88};
        laws(x, due);
        check.due("fault", x.fault(), NONE);
        check.due("read of one", Make.laws(x, "lean 9;"), 1);
        laws(x, new int[] {90, 60, 9, 5, 90, 8, 3, 95});
        check.due("count(6)", x.count(6), 0);
    }

    private static void emptyTextsAreAsAtFirst() {
        LooksByMany x = new LooksByMany();
        Make.laws(x, "sharp 1;sure 50;");
        check.due("read of nothing", x.read(), 0);
        laws(x, FIRST);
        Make.laws(x, "sharp 1;sure 50;");
        check.due("read of blanks", Make.laws(x, "     "), 0);
        check.due("fault", x.fault(), NONE);
        laws(x, FIRST);
    }

    private static void boundsOfEachLaw() {
        for (int law = 0; law < WORDS.length; law++) {
            LooksByMany x = new LooksByMany();
            check.due(WORDS[law] + " least", Make.laws(x, WORDS[law] + LEAST[law] + ";"), 1);
            check.due("law", x.law(law), LEAST[law]);
            check.due(WORDS[law] + " greatest", Make.laws(x, WORDS[law] + " " + GREATEST[law] + ";"), 1);
            check.due("law", x.law(law), GREATEST[law]);
            check.due(WORDS[law] + " above", Make.laws(x, WORDS[law] + " " + (GREATEST[law] + 1) + ";"), -12);
            check.due("fault", x.fault(), WORDS[law].length() + 1);
            if (LEAST[law] > 0) {
                check.due(WORDS[law] + " below", Make.laws(x, WORDS[law] + (LEAST[law] - 1) + ";"), -12);
                check.due("fault", x.fault(), WORDS[law].length());
            }
            check.due("law is as it was", x.law(law), GREATEST[law]);
        }
    }

    private static void blanksMayStand() {
        LooksByMany x = new LooksByMany();
        check.due("no blanks", Make.laws(x, "far1;lean2;"), 2);
        check.due("blanks all over", Make.laws(x, "  far   1  ;  lean  2 ;  "), 2);
        check.due("law(1)", x.law(1), 1);
        check.due("law(2)", x.law(2), 2);
        check.due("noughts ahead", Make.laws(x, "far 007;"), 1);
        check.due("law(1)", x.law(1), 7);
    }

    private static void faultsOne() {
        fault(";", 1, 0);
        fault("5;", 1, 0);
        fault("5000;", 1, 0);
        fault("fal 5;", 1, 0);
        fault(" farr 5;", 1, 1);
        fault("gar 5;", 1, 0);
        fault("farz 5;", 1, 0);
        fault("fa r 5;", 1, 0);
        fault("Far 5;", 1, 0);
        fault("faR 5;", 1, 0);
        fault("farR 5;", 1, 3);
        fault("far", 1, 3);
        fault("far  ", 1, 5);
        fault("far;", 1, 3);
        fault("far x5;", 1, 4);
        fault("far far 5;", 1, 4);
        fault("far -5;", 1, 4);
        fault("far 5", 1, 5);
        fault("far 5 ", 1, 6);
        fault("far 5 6;", 1, 6);
        fault("far 5x;", 1, 5);
        fault("far 5 lean 6;", 1, 6);
        fault("far 5;;", 1, 6);
        fault("far\t5;", 1, 3);
        fault("far 5\n;", 1, 5);
        fault("far 5;\u0000", 1, 6);
        fault("\u00e9", 1, 0);
        fault("far 5;sharp 5;f", 1, 14);
        fault("s", 1, 0);
    }

    private static void faultsTwo() {
        fault("far 101;", 2, 4);
        fault("far 999;", 2, 4);
        fault("far 0005;", 2, 4);
        fault("far 1000;", 2, 4);
        fault("far 99999999999999999999;", 2, 4);
        fault("far  4294967297", 2, 5);
        fault("line 33", 2, 5);
        fault("most 0;", 2, 5);
        fault("patience0;", 2, 8);
        fault("far 5;line 9;", 2, 11);
    }

    private static void faultsThree() {
        fault("far 5;far 5;", 3, 6);
        fault("far 5; far", 3, 7);
        fault("far 5;lean 6;far 999;", 3, 13);
        fault("sharp 1; far 2; lean 3; tire 4; line 55; most 6; patience 7; sure 88; sharp", 3, 70);
    }

    private static void theFirstFaultIsTold() {
        fault("far 5000x;", 2, 4);
        fault("line 3 3;", 2, 5);
        fault("far 5; far 999x", 3, 7);
        fault("far 5;farr;", 1, 6);
        fault("far 5 far 5;", 1, 6);
    }

    private static void aFaultLeavesLaws() {
        LooksByMany x = new LooksByMany();
        Make.laws(x, "sharp 1;far 2;");
        check.due("read with a fault", Make.laws(x, "sharp 3;lean 4;far 5"), -11);
        laws(x, new int[] {1, 2, 30, 5, 90, 8, 3, 95});
        check.due("fault", x.fault(), 20);
        check.due("the text is empty then", x.count(6), 0);
        check.due("fault stays until the next read", x.fault(), 20);
        Make.text(x, "far 3;");
        check.due("fault stays while a text is fed", x.fault(), 20);
        check.due("read", x.read(), 1);
        check.due("fault of the latest read", x.fault(), NONE);
        laws(x, new int[] {90, 3, 30, 5, 90, 8, 3, 95});
    }

    // the ';' of the first text stands just behind the end of the second
    private static void whatWasReadIsGone() {
        LooksByMany x = new LooksByMany();
        check.due("read", Make.laws(x, "lean 6;"), 1);
        check.due("read of a text without an end", Make.laws(x, "lean 7"), -11);
        check.due("fault", x.fault(), 6);
        check.due("law(2)", x.law(2), 6);
    }

    private static void lawsAreRefused() {
        LooksByMany x = new LooksByMany();
        check.due("law(-1)", x.law(-1), OUTSIDE);
        check.due("law(8)", x.law(8), OUTSIDE);
    }

    private static void laws(LooksByMany x, int[] due) {
        for (int what = 0; what < due.length; what++) {
            check.due("law(" + what + ")", x.law(what), due[what]);
        }
    }

    private static void fault(String text, int number, int place) {
        LooksByMany x = new LooksByMany();
        check.due("read of '" + text + "'", Make.laws(x, text), -10 - number);
        check.due("fault of '" + text + "'", x.fault(), place);
        laws(x, FIRST);
    }
}
