/** Promises 1 to 4 and 10: a new object, pictures, mirrors, lookers, what is told of pictures. */
public final class PicturesTest {
    private static final int NONE = -1, UNKNOWN = -1001, OUTSIDE = -1002, NOT = -1003, FULL = -1004;
    private static final Check check = new Check();

    public static void main(String[] args) {
        aNewObjectIsEmpty();
        picturesAreNumbered();
        wrongPicturesAreOutside();
        picturesAreTwentyFour();
        mirrorsTurnArms();
        mirrorsAreRefused();
        lookersAreNumbered();
        whatIsTold();
        whatIsToldOfLooks();
        check.end();
    }

    private static void aNewObjectIsEmpty() {
        LooksByMany x = new LooksByMany();
        for (int what = 0; what <= 8; what++) {
            check.due("new: count(" + what + ")", x.count(what), 0);
        }
        int[] laws = {90, 60, 30, 5, 90, 8, 3, 95};
        for (int what = 0; what < laws.length; what++) {
            check.due("new: law(" + what + ")", x.law(what), laws[what]);
        }
        check.due("new: fault()", x.fault(), NONE);
        check.due("new: told(0, 0)", x.told(0, 0), UNKNOWN);
        check.due("new: stays(0)", x.stays(0), UNKNOWN);
        check.due("new: about(0, 0)", x.about(0, 0), UNKNOWN);
        check.due("new: sky(0)", x.sky(0), 334);
        check.due("new: sky(1)", x.sky(1), 333);
        check.due("new: sky(2)", x.sky(2), 333);
        check.due("new: green(0)", x.green(0), NONE);
        check.due("new: given(0)", x.given(0), 0);
        check.due("new: far(0, 0)", x.far(0, 0), 0);
        check.due("new: evening(0, 1, 0)", x.evening(0, 1, 0), 0);
        check.due("new: tree(3, 1)", x.tree(3, 1), NONE);
        check.due("new: tree(4, 1)", x.tree(4, 1), OUTSIDE);
        check.due("new: weight(1, 1)", x.weight(1, 1), 1);
        check.due("new: seed(0)", x.seed(0), 0);
    }

    private static void picturesAreNumbered() {
        LooksByMany x = new LooksByMany();
        check.due("picture(0, 0, 0, false)", x.picture(0, 0, 0, false), 0);
        check.due("picture(2, 1, 9, true)", x.picture(2, 1, 9, true), 1);
        check.due("count(0)", x.count(0), 2);
        check.due("count(3)", x.count(3), 1);
    }

    private static void wrongPicturesAreOutside() {
        LooksByMany x = new LooksByMany();
        check.due("kind -1", x.picture(-1, 0, 0, false), OUTSIDE);
        check.due("kind 3", x.picture(3, 0, 0, false), OUTSIDE);
        check.due("far -1", x.picture(0, -1, 0, false), OUTSIDE);
        check.due("far 2", x.picture(0, 2, 0, false), OUTSIDE);
        check.due("depth -1", x.picture(0, 0, -1, false), OUTSIDE);
        check.due("depth 10", x.picture(0, 0, 10, false), OUTSIDE);
        check.due("count(0) after refusals", x.count(0), 0);
    }

    private static void picturesAreTwentyFour() {
        LooksByMany x = new LooksByMany();
        for (int p = 0; p < 23; p++) {
            check.due("picture " + p, x.picture(1, 0, 1, false), p);
        }
        check.due("mirror as the last", x.mirror(0), 23);
        check.due("one more picture", x.picture(1, 0, 1, false), FULL);
        check.due("one more, outside", x.picture(9, 0, 1, false), OUTSIDE);
        check.due("one more mirror", x.mirror(1), FULL);
        check.due("a mirror's mirror when full", x.mirror(23), NOT);
        check.due("count(0) when full", x.count(0), 24);
    }

    private static void mirrorsTurnArms() {
        LooksByMany x = new LooksByMany();
        x.picture(0, 1, 3, true);
        x.picture(1, 0, 4, true);
        x.picture(2, 1, 5, false);
        int[] kinds = {0, 2, 1};
        int[] fars = {1, 0, 1};
        for (int p = 0; p < 3; p++) {
            check.due("mirror(" + p + ")", x.mirror(p), 3 + p);
            check.due("its kind", x.told(3 + p, 0), kinds[p]);
            check.due("its far", x.told(3 + p, 1), fars[p]);
            check.due("its depth", x.told(3 + p, 2), 3 + p);
            check.due("its known", x.told(3 + p, 3), 0);
            check.due("of which it is one", x.told(3 + p, 4), p);
        }
        check.due("a second mirror of one", x.mirror(1), 6);
        check.due("of which the second is one", x.told(6, 4), 1);
        check.due("count(4)", x.count(4), 4);
        check.due("count(3)", x.count(3), 2);
    }

    private static void mirrorsAreRefused() {
        LooksByMany x = new LooksByMany();
        check.due("mirror(0) of none", x.mirror(0), UNKNOWN);
        x.picture(1, 0, 1, false);
        check.due("mirror(-1)", x.mirror(-1), UNKNOWN);
        check.due("mirror(1)", x.mirror(1), UNKNOWN);
        check.due("mirror(0)", x.mirror(0), 1);
        check.due("mirror(1) of a mirror", x.mirror(1), NOT);
        check.due("count(0)", x.count(0), 2);
    }

    private static void lookersAreNumbered() {
        LooksByMany x = new LooksByMany();
        check.due("looker(-1)", x.looker(-1), OUTSIDE);
        check.due("looker(6)", x.looker(6), OUTSIDE);
        for (int l = 0; l < 8; l++) {
            check.due("looker " + l, x.looker(l % 6), l);
        }
        check.due("a ninth looker", x.looker(0), FULL);
        check.due("a ninth looker, outside", x.looker(6), OUTSIDE);
        check.due("count(1)", x.count(1), 8);
    }

    private static void whatIsTold() {
        LooksByMany x = new LooksByMany();
        x.picture(2, 1, 7, true);
        int[] due = {2, 1, 7, 1, NONE, 0, 0, 0};
        for (int what = 0; what < due.length; what++) {
            check.due("told(0, " + what + ")", x.told(0, what), due[what]);
        }
        check.due("told(0, -1)", x.told(0, -1), OUTSIDE);
        check.due("told(0, 8)", x.told(0, 8), OUTSIDE);
        check.due("told(1, 0)", x.told(1, 0), UNKNOWN);
        check.due("told(1, 8)", x.told(1, 8), UNKNOWN);
        check.due("told(-1, 0)", x.told(-1, 0), UNKNOWN);
    }

    private static void whatIsToldOfLooks() {
        LooksByMany x = new LooksByMany();
        x.picture(2, 1, 7, true);
        Make.lookers(x, 0, 0, 0);
        x.look(0, 0, 3);
        x.look(1, 0, 2);
        x.look(2, 0, 3);
        check.due("told(0, 5)", x.told(0, 5), 3);
        check.due("told(0, 6)", x.told(0, 6), 2);
        check.due("told(0, 7), before it is reckoned", x.told(0, 7), 0);
        x.reckon();
        check.due("told(0, 7), known and reckoned", x.told(0, 7), 1);
    }
}
