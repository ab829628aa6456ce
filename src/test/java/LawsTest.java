/** Promises 5 to 8: texts fed and read as laws, their faults, and what laws tell. */
public final class LawsTest {
    private static final int NONE = -1;
    private static final int[] FIRST = {90, 60, 30, 5, 90, 8, 3, 95};
    private static final Check check = new Check();

    public static void main(String[] args) {
        bytesComeHighestFirst();
        aTextBecomesLaws();
        blanksMayStand();
        theFirstFaultIsTold();
        aFaultLeavesLaws();
        whatWasReadIsGone();
        check.end();
    }

    private static void bytesComeHighestFirst() {
        LooksByMany x = new LooksByMany();
        check.due("feed of 'far 7;'", x.feed(6, 0x66617220373BL), 6);
        check.due("read", x.read(), 1);
        check.due("law(1)", x.law(1), 7);
        // only the lowest bytes count: what stands above them is cut off
        check.due("feed of 'mos', with more above", x.feed(3, 0x7A7A7A7A7A6D6F73L), 3);
        check.due("feed of 't2;'", x.feed(3, 0x74323BL), 6);
        check.due("read of two feeds", x.read(), 1);
        check.due("law(5)", x.law(5), 2);
        check.due("feed of a negative long", x.feed(8, -1L), 8);
        check.due("read of bytes 255", x.read(), -11);
        check.due("fault", x.fault(), 0);
    }

    private static void aTextBecomesLaws() {
        LooksByMany x = new LooksByMany();
        String all = "sharp 1; far 2; lean 3; tire 4; line 55; most 6; patience 7; sure 88;";
        check.due("read of all eight", Make.laws(x, all), 8);
        int[] due = {1, 2, 3, 4, 55, 6, 7, 88};
        laws(x, due);
        check.due("fault", x.fault(), NONE);
        check.due("read of one", Make.laws(x, "lean 9;"), 1);
        laws(x, new int[] {90, 60, 9, 5, 90, 8, 3, 95});
        check.due("count(6)", x.count(6), 0);
    }

    private static void blanksMayStand() {
        LooksByMany x = new LooksByMany();
        check.due("no blanks", Make.laws(x, "far1;lean2;"), 2);
        check.due("blanks all over", Make.laws(x, "  far   1  ;  lean  2 ;  "), 2);
        check.due("law(1)", x.law(1), 1);
        check.due("law(2)", x.law(2), 2);
        check.due("noughts ahead", Make.laws(x, "far 007;"), 1);
        check.due("law(1)", x.law(1), 7);
    }

    private static void theFirstFaultIsTold() {
        fault("far 5000x;", 2, 4);
        fault("line 3 3;", 2, 5);
        fault("far 5; far 999x", 3, 7);
        fault("far 5;farr;", 1, 6);
        fault("far 5 far 5;", 1, 6);
    }

    private static void aFaultLeavesLaws() {
        LooksByMany x = new LooksByMany();
        Make.laws(x, "sharp 1;far 2;");
        check.due("read with a fault", Make.laws(x, "sharp 3;lean 4;far 5"), -11);
        laws(x, new int[] {1, 2, 30, 5, 90, 8, 3, 95});
        check.due("fault", x.fault(), 20);
        check.due("the text is empty then", x.count(6), 0);
        check.due("fault stays until the next read", x.fault(), 20);
        Make.text(x, "far 3;");
        check.due("fault stays while a text is fed", x.fault(), 20);
        check.due("read", x.read(), 1);
        check.due("fault of the latest read", x.fault(), NONE);
        laws(x, new int[] {90, 3, 30, 5, 90, 8, 3, 95});
    }

    // the ';' of the first text stands just behind the end of the second
    private static void whatWasReadIsGone() {
        LooksByMany x = new LooksByMany();
        check.due("read", Make.laws(x, "lean 6;"), 1);
        check.due("read of a text without an end", Make.laws(x, "lean 7"), -11);
        check.due("fault", x.fault(), 6);
        check.due("law(2)", x.law(2), 6);
    }

    private static void laws(LooksByMany x, int[] due) {
        for (int what = 0; what < due.length; what++) {
            check.due("law(" + what + ")", x.law(what), due[what]);
        }
    }

    private static void fault(String text, int number, int place) {
        LooksByMany x = new LooksByMany();
        check.due("read of '" + text + "'", Make.laws(x, text), -10 - number);
        check.due("fault of '" + text + "'", x.fault(), place);
        laws(x, FIRST);
    }
}
