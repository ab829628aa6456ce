/** Promises 23 to 26: leans by mirrors, two who may be one, green ones, what was given to machines. */
public final class LeansTest {
    private static final int NONE = -1;
    private static final Check check = new Check();

    public static void main(String[] args) {
        leansByMirrors();
        leansAreCutTowardsNought();
        onlyArmsAreOfLeans();
        mirrorsOfOneAreNoPair();
        agreedOfTwo();
        mayBeOne();
        greenOnes();
        givenToMachines();
        givenWithTwoMachines();
        givenByLowSureness();
        givenOfEachKind();
        check.end();
    }

    private static void leansByMirrors() {
        LooksByMany x = Make.mirrored(4);
        check.due("lean(0, 0), no pairs", x.lean(0, 0), NONE);
        check.due("lean(0, 1), no pairs", x.lean(0, 1), 0);
        Make.looks(x, 0, 1, 1, 1, 2, 2, 1);
        check.due("one of three to the left", x.lean(0, 0), 1033);
        check.due("pairs", x.lean(0, 1), 3);
        x.look(0, 6, 2);
        check.due("a look without its mirror's", x.lean(0, 1), 3);
        x.look(0, 7, 2);
        check.due("one left, one right", x.lean(0, 0), 1000);
        check.due("pairs", x.lean(0, 1), 4);
    }

    private static void leansAreCutTowardsNought() {
        LooksByMany x = Make.mirrored(3);
        Make.looks(x, 0, 2, 2, 1, 2, 2, 1);
        check.due("one of three to the right", x.lean(0, 0), 967);
        LooksByMany y = Make.mirrored(1);
        Make.looks(y, 0, 2, 2);
        check.due("all to the right", y.lean(0, 0), 900);
        LooksByMany z = Make.mirrored(1);
        Make.looks(z, 0, 1, 1);
        check.due("all to the left", z.lean(0, 0), 1100);
    }

    private static void onlyArmsAreOfLeans() {
        LooksByMany x = Make.mirrored(4);
        Make.looks(x, 0, 0, 1, 1, 0, 3, 1, 2, 3);
        check.due("lean(0, 0)", x.lean(0, 0), NONE);
        check.due("lean(0, 1)", x.lean(0, 1), 0);
    }

    private static void mirrorsOfOneAreNoPair() {
        LooksByMany x = new LooksByMany();
        x.picture(1, 0, 1, false);
        x.mirror(0);
        x.mirror(0);
        x.looker(0);
        Make.looks(x, 0, -1, 1, 1);
        check.due("two mirrors of one", x.lean(0, 1), 0);
        x.look(0, 0, 1);
        check.due("it with each of its mirrors", x.lean(0, 1), 2);
        check.due("lean(0, 0)", x.lean(0, 0), 1100);
    }

    private static void agreed(LooksByMany x, int alike, int of, int one) {
        int[] due = {alike, of, one};
        for (int what = 0; what < 3; what++) {
            check.due("agreed(0, 1, " + what + ")", x.agreed(0, 1, what), due[what]);
            check.due("agreed(1, 0, " + what + ")", x.agreed(1, 0, what), due[what]);
        }
    }

    private static void agreedOfTwo() {
        LooksByMany x = new LooksByMany();
        Make.pictures(x, 6, 1, 0, 1);
        Make.lookers(x, 0, 0);
        agreed(x, 0, 0, 0);
        Make.looks(x, 0, 1, 2, 3, 0, -1, 1);
        Make.looks(x, 1, 1, 1, 3, -1, 0, 2);
        agreed(x, 2, 4, 0);
    }

    private static void mayBeOne() {
        LooksByMany x = new LooksByMany();
        Make.pictures(x, 7, 1, 0, 1);
        Make.lookers(x, 0, 0);
        Make.looks(x, 0, 1, 2, 3, 0);
        Make.looks(x, 1, 1, 2, 3, 0);
        agreed(x, 4, 4, 0);
        x.look(0, 4, 1);
        agreed(x, 4, 4, 0);
        x.look(1, 4, 1);
        agreed(x, 5, 5, 1);
        x.look(0, 5, 1);
        x.look(1, 6, 2);
        agreed(x, 5, 5, 1);
        x.look(1, 5, 2);
        agreed(x, 5, 6, 0);
    }

    private static void greenOnes() {
        LooksByMany x = new LooksByMany();
        Make.pictures(x, 5, 1, 0, 1);
        Make.lookers(x, 5, 5, 5);
        Make.looks(x, 0, 1, 3, 3, 3, 3);
        Make.looks(x, 1, 1, 2, 3, 2, 3);
        Make.looks(x, 2, 1, 0, 3, 0, 0);
        int[] due = {2, 4, 1, 3, NONE, NONE};
        for (int i = 0; i < due.length; i++) {
            check.due("green(" + i + ")", x.green(i), due[i]);
        }
        check.due("green(2147483647)", x.green(2147483647), NONE);
    }

    private static void given(LooksByMany x, int pictures, int others, int wrong) {
        int[] due = {pictures, others, wrong};
        for (int what = 0; what < 3; what++) {
            check.due("given(" + what + ")", x.given(what), due[what]);
        }
    }

    // one known picture, one that all take for another, one that the machine takes for another alone
    private static void givenToMachines() {
        LooksByMany x = new LooksByMany();
        x.picture(1, 0, 1, true);
        x.picture(2, 0, 1, false);
        x.picture(2, 0, 1, true);
        x.picture(1, 0, 1, false);
        Make.lookers(x, 4, 0, 3);
        Make.looks(x, 0, 1, 1, 1);
        Make.looks(x, 1, 1, 1, 2, 1);
        x.look(2, 1, 1);
        given(x, 0, 0, 0);
        x.reckon();
        check.isTrue("all take 1 for LEFT", x.odds(1, 1) >= 950);
        given(x, 2, 3, 1);
    }

    private static void givenWithTwoMachines() {
        LooksByMany x = new LooksByMany();
        Make.pictures(x, 1, 0, 0, 1);
        x.picture(1, 0, 1, true);
        Make.lookers(x, 4, 4, 0, 0, 0);
        x.look(0, 1, 1);
        x.look(1, 1, 2);
        x.look(2, 1, 3);
        x.look(3, 1, 0);
        x.reckon();
        given(x, 1, 2, 0);
        // an answer 3 has no odds, and a look of others alone gives nothing
        x.look(0, 0, 3);
        x.look(4, 0, 0);
        x.reckon();
        given(x, 1, 2, 0);
    }

    // by 'sure 34' an odds of 340 is enough: two machines may give one picture two answers
    private static void givenByLowSureness() {
        LooksByMany x = new LooksByMany();
        x.picture(1, 0, 1, false);
        Make.lookers(x, 4, 4, 0);
        Make.looks(x, 0, 1);
        Make.looks(x, 1, 2);
        Make.looks(x, 2, 1);
        Make.laws(x, "sure 34;");
        given(x, 0, 0, 0);
        x.reckon();
        check.isTrue("LEFT is sure", x.odds(0, 1) >= 340);
        check.isTrue("RIGHT is not", x.odds(0, 2) < 340);
        given(x, 1, 1, 0);
        LooksByMany y = new LooksByMany();
        y.picture(1, 0, 1, false);
        Make.lookers(y, 4, 4);
        Make.looks(y, 0, 1);
        Make.looks(y, 1, 2);
        Make.laws(y, "sure 34;");
        y.reckon();
        check.isTrue("both are sure", y.odds(0, 1) >= 340 && y.odds(0, 2) >= 340);
        given(y, 1, 0, 1);
    }

    private static void givenOfEachKind() {
        for (int kind = 0; kind < 3; kind++) {
            LooksByMany x = new LooksByMany();
            x.picture(kind, 0, 1, true);
            x.picture(kind, 0, 1, true);
            Make.lookers(x, 5, 4);
            x.look(0, 0, 3);
            x.look(1, 0, kind);
            x.look(1, 1, (kind + 1) % 3);
            x.reckon();
            given(x, 1, 1, 0);
        }
    }
}
