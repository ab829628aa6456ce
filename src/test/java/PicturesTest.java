/** Promises 2 to 4 and 10: pictures, mirrors, lookers, what is told of pictures. */
public final class PicturesTest {
    private static final int NONE = -1;
    private static final Check check = new Check();

    public static void main(String[] args) {
        picturesAreNumbered();
        mirrorsTurnArms();
        lookersAreNumbered();
        whatIsTold();
        whatIsToldOfLooks();
        check.end();
    }

    private static void picturesAreNumbered() {
        LooksByMany x = new LooksByMany();
        check.due("picture(0, 0, 0, false)", x.picture(0, 0, 0, false), 0);
        check.due("picture(2, 1, 9, true)", x.picture(2, 1, 9, true), 1);
        check.due("count(0)", x.count(0), 2);
        check.due("count(3)", x.count(3), 1);
    }

    private static void mirrorsTurnArms() {
        LooksByMany x = new LooksByMany();
        x.picture(0, 1, 3, true);
        x.picture(1, 0, 4, true);
        x.picture(2, 1, 5, false);
        int[] kinds = {0, 2, 1};
        int[] fars = {1, 0, 1};
        for (int p = 0; p < 3; p++) {
            check.due("mirror(" + p + ")", x.mirror(p), 3 + p);
            check.due("its kind", x.told(3 + p, 0), kinds[p]);
            check.due("its far", x.told(3 + p, 1), fars[p]);
            check.due("its depth", x.told(3 + p, 2), 3 + p);
            check.due("its known", x.told(3 + p, 3), 0);
            check.due("of which it is one", x.told(3 + p, 4), p);
        }
        check.due("a second mirror of one", x.mirror(1), 6);
        check.due("of which the second is one", x.told(6, 4), 1);
        check.due("count(4)", x.count(4), 4);
        check.due("count(3)", x.count(3), 2);
    }

    private static void lookersAreNumbered() {
        LooksByMany x = new LooksByMany();
        for (int l = 0; l < 4; l++) {
            check.due("looker " + l, x.looker(5 - l), l);
        }
        check.due("count(1)", x.count(1), 4);
    }

    private static void whatIsTold() {
        LooksByMany x = new LooksByMany();
        x.picture(2, 1, 7, true);
        int[] due = {2, 1, 7, 1, NONE, 0, 0, 0};
        for (int what = 0; what < due.length; what++) {
            check.due("told(0, " + what + ")", x.told(0, what), due[what]);
        }
    }

    private static void whatIsToldOfLooks() {
        LooksByMany x = new LooksByMany();
        x.picture(2, 1, 7, true);
        Make.lookers(x, 0, 0, 0);
        x.look(0, 0, 3);
        x.look(1, 0, 2);
        x.look(2, 0, 3);
        check.due("told(0, 5)", x.told(0, 5), 3);
        check.due("told(0, 6)", x.told(0, 6), 2);
        check.due("told(0, 7), before it is reckoned", x.told(0, 7), 0);
        x.reckon();
        check.due("told(0, 7), known and reckoned", x.told(0, 7), 1);
    }
}
