/** Boundary cases of promises 23 to 26 and of LEAN, AGREED, ONE, GREEN, GIVEN: each sentence has a test of its own. */
public final class EdgeLeansTest {
    private static final int NONE = -1, UNKNOWN = -1001, OUTSIDE = -1002;
    private static final int CAREFUL = 0, MACHINE = 4, ASKING = 5;
    private static final Check check = new Check();
    private static final Edges edges = new Edges(check);

    public static void main(String[] args) {
        pairsWithAMirror();
        bothAnsweredArms();
        leansAreCut();
        noPairs();
        allPairs();
        leanIsRefused();
        agreedOfNone();
        agreedOfAll();
        fiveAtLeast();
        agreedInAll();
        agreedIsRefused();
        greenOfNone();
        greenOfAll();
        mostThenLeastNumber();
        greenIsRefused();
        givenOfNone();
        justSure();
        someMachine();
        noneOfTheseIsNotSure();
        looksOfOthers();
        wrongAnswers();
        givenOfAll();
        givenIsRefused();
        check.end();
    }

    private static void lean(LooksByMany x, int lean, int pairs) {
        check.due("lean(0, 0)", x.lean(0, 0), lean);
        check.due("lean(0, 1)", x.lean(0, 1), pairs);
    }

    private static void pairsWithAMirror() {
        check.sentence("of its pairs of LOOKS at a PICTURE and a MIRROR of it");
        LooksByMany x = Make.mirrored(2);
        x.look(0, 0, 1);
        lean(x, NONE, 0);
        x.look(1, 1, 1);
        lean(x, NONE, 0);
        x.look(0, 3, 1);
        lean(x, NONE, 0);
        x.look(0, 1, 1);
        lean(x, 1100, 1);
        // two mirrors of one are no pair; each of them with the picture is one
        LooksByMany y = new LooksByMany();
        y.picture(1, 0, 1, false);
        y.mirror(0);
        y.mirror(0);
        y.looker(CAREFUL);
        y.look(0, 1, 1);
        y.look(0, 2, 1);
        lean(y, NONE, 0);
        y.look(0, 0, 1);
        lean(y, 1100, 2);
    }

    private static void bothAnsweredArms() {
        check.sentence("both ANSWERED 1 or 2: (those both LEFT, less those both RIGHT) times 100 / all such pairs");
        for (int answer = 0; answer <= 3; answer++) {
            for (int mirrored = 0; mirrored <= 3; mirrored++) {
                LooksByMany x = Make.mirrored(1);
                x.look(0, 0, answer);
                x.look(0, 1, mirrored);
                boolean isPair = answer % 3 != 0 && mirrored % 3 != 0;
                lean(x, !isPair ? NONE : answer != mirrored ? 1000 : answer == 1 ? 1100 : 900, isPair ? 1 : 0);
            }
        }
    }

    private static void leansAreCut() {
        check.sentence("/ cuts towards 0");
        LooksByMany left = Make.mirrored(3);
        Make.looks(left, 0, 1, 1, 1, 2, 2, 1);
        lean(left, 1033, 3);
        LooksByMany right = Make.mirrored(3);
        Make.looks(right, 0, 2, 2, 1, 2, 2, 1);
        lean(right, 967, 3);
        LooksByMany twice = Make.mirrored(3);
        Make.looks(twice, 0, 2, 2, 2, 2, 2, 1);
        lean(twice, 934, 3);
    }

    private static void noPairs() {
        check.sentence("told as 1000 and it; NONE: there are no such pairs");
        lean(Make.mirrored(0), NONE, 0);
        lean(Make.mirrored(2), NONE, 0);
        LooksByMany x = Make.mirrored(2);
        Make.looks(x, 0, 1, 1, 2, 2);
        lean(x, 1000, 2);
        check.due("lean(1, 0) of one without looks", x.lean(1, 0), NONE);
        check.due("lean(1, 1) of one without looks", x.lean(1, 1), 0);
    }

    private static void allPairs() {
        check.sentence("pairs of that (1)");
        for (int answer = 1; answer <= 2; answer++) {
            LooksByMany x = Make.mirrored(12);
            LooksByMany y = new LooksByMany();
            y.picture(1, 0, 1, false);
            y.looker(CAREFUL);
            for (int p = 0; p < 24; p++) {
                x.look(0, p, answer);
                y.mirror(0);
                y.look(0, p, answer);
            }
            lean(x, answer == 1 ? 1100 : 900, 12);
            lean(y, answer == 1 ? 1100 : 900, 23);
        }
    }

    private static void leanIsRefused() {
        check.sentence("LEAN (what = 0 ..), pairs of that (1). UNKNOWN, OUTSIDE.");
        edges.bounds("the looker of lean", Make::something, 0, 2, UNKNOWN, (x, l) -> x.lean(l, 0));
        edges.bounds("what of lean", Make::something, 0, 1, OUTSIDE, (x, what) -> x.lean(0, what));
        edges.refused("lean(3, 2)", Make::something, UNKNOWN, x -> x.lean(3, 2));
        edges.refused("lean(-1, -1)", Make::something, UNKNOWN, x -> x.lean(-1, -1));
        check.due("lean without lookers", new LooksByMany().lean(0, 0), UNKNOWN);
        check.due("the last of eight", Make.fullOfLookers().lean(7, 0), NONE);
        check.due("a ninth", Make.fullOfLookers().lean(8, 0), UNKNOWN);
    }

    private static void agreed(LooksByMany x, int alike, int of, int one) {
        edges.answers("agreed(0, 1, what)", 0, what -> x.agreed(0, 1, what), alike, of, one);
        edges.answers("agreed(1, 0, what)", 0, what -> x.agreed(1, 0, what), alike, of, one);
    }

    private static LooksByMany two(int[] answers, int[] others) {
        LooksByMany x = new LooksByMany();
        Make.pictures(x, 24, 1, 0, 1);
        Make.lookers(x, CAREFUL, CAREFUL);
        Make.looks(x, 0, answers);
        Make.looks(x, 1, others);
        return x;
    }

    private static void agreedOfNone() {
        check.sentence("AGREED of two: at PICTURES at which both have LOOKS");
        agreed(two(new int[] {}, new int[] {}), 0, 0, 0);
        agreed(two(new int[] {1, 1, 1, 1, 1}, new int[] {}), 0, 0, 0);
        agreed(two(new int[] {1, 1, 1, -1, -1}, new int[] {-1, -1, -1, 1, 1}), 0, 0, 0);
        agreed(two(new int[] {0}, new int[] {0}), 1, 1, 0);
        agreed(two(new int[] {3}, new int[] {0}), 0, 1, 0);
    }

    private static void agreedOfAll() {
        check.sentence("how many ANSWERS are alike, of how many");
        LooksByMany x = Make.fullOfLooks(3);
        agreed(x, 24, 24, 1);
        edges.answers("agreed(6, 7, what)", 0, what -> x.agreed(6, 7, what), 24, 24, 1);
    }

    private static void fiveAtLeast() {
        check.sentence("ONE may be two who AGREED in all, 5 at least.");
        agreed(two(new int[] {0, 1, 2, 3}, new int[] {0, 1, 2, 3}), 4, 4, 0);
        agreed(two(new int[] {0, 1, 2, 3, 1}, new int[] {0, 1, 2, 3}), 4, 4, 0);
        agreed(two(new int[] {0, 1, 2, 3, 1}, new int[] {0, 1, 2, 3, 1}), 5, 5, 1);
        agreed(two(new int[] {0, 1, 2, 3, 1, 1}, new int[] {0, 1, 2, 3, 1, 1}), 6, 6, 1);
    }

    private static void agreedInAll() {
        check.sentence("ONE may be two who AGREED in all");
        agreed(two(new int[] {0, 1, 2, 3, 1}, new int[] {0, 1, 2, 3, 2}), 4, 5, 0);
        agreed(two(new int[] {0, 1, 2, 3, 1, 1}, new int[] {0, 1, 2, 3, 1, 0}), 5, 6, 0);
        // a look at which the other has none does not matter
        agreed(two(new int[] {0, 1, 2, 3, 1, 1}, new int[] {0, 1, 2, 3, 1, -1, 0}), 5, 5, 1);
    }

    private static void agreedIsRefused() {
        check.sentence("AGREED of two: .. UNKNOWN (one twice), OUTSIDE.");
        // beside the bounds stand the other one itself, and one that there is not
        edges.bounds("the first of agreed with 2", Make::something, 0, 1, UNKNOWN, (x, l) -> x.agreed(l, 2, 0));
        edges.bounds("the first of agreed with 0", Make::something, 1, 2, UNKNOWN, (x, l) -> x.agreed(l, 0, 0));
        edges.bounds("the second of agreed with 2", Make::something, 0, 1, UNKNOWN, (x, m) -> x.agreed(2, m, 0));
        edges.bounds("the second of agreed with 0", Make::something, 1, 2, UNKNOWN, (x, m) -> x.agreed(0, m, 0));
        edges.bounds("what of agreed", Make::something, 0, 2, OUTSIDE, (x, what) -> x.agreed(0, 1, what));
        edges.refused("one twice", Make::something, UNKNOWN, x -> x.agreed(1, 1, 0));
        edges.refused("one twice, what 3", Make::something, UNKNOWN, x -> x.agreed(1, 1, 3));
        edges.refused("none twice", Make::something, UNKNOWN, x -> x.agreed(3, 3, 0));
        edges.refused("agreed(0, 3, 3)", Make::something, UNKNOWN, x -> x.agreed(0, 3, 3));
        edges.refused("agreed(-1, 0, -1)", Make::something, UNKNOWN, x -> x.agreed(-1, 0, -1));
        check.due("agreed without lookers", new LooksByMany().agreed(0, 1, 0), UNKNOWN);
        check.due("the last of eight", Make.fullOfLookers().agreed(7, 6, 0), 0);
        check.due("a ninth", Make.fullOfLookers().agreed(7, 8, 0), UNKNOWN);
    }

    private static void greenOfNone() {
        check.sentence("those without are none");
        check.due("without pictures", new LooksByMany().green(0), NONE);
        LooksByMany x = Make.fullOfLooks(2);
        check.due("without an answer 3", x.green(0), NONE);
        check.due("green(23)", x.green(23), NONE);
        LooksByMany y = two(new int[] {0, 1, 3, 2}, new int[] {});
        edges.answers("green", 0, y::green, 2, NONE, NONE, NONE);
    }

    private static void greenOfAll() {
        check.sentence("The i-th PICTURE by GREEN");
        LooksByMany x = Make.fullOfLooks(3);
        for (int i = 0; i < 24; i++) {
            check.due("green(" + i + ")", x.green(i), i);
        }
        check.due("green(24)", x.green(24), NONE);
        check.due("green(2147483647)", x.green(2147483647), NONE);
    }

    private static void mostThenLeastNumber() {
        check.sentence("(the most first, then the least number");
        LooksByMany x = new LooksByMany();
        Make.pictures(x, 24, 1, 0, 1);
        Make.lookers(x, ASKING, ASKING, ASKING);
        for (int l = 0; l < 3; l++) {
            x.look(l, 23, 3);
        }
        x.look(0, 4, 3);
        x.look(0, 7, 3);
        x.look(1, 7, 3);
        x.look(0, 5, 3);
        x.look(1, 5, 3);
        x.look(0, 0, 3);
        // looks with other answers do not make one greener
        x.look(1, 0, 1);
        x.look(2, 0, 1);
        edges.answers("green", 0, x::green, 23, 5, 7, 0, 4, NONE);
    }

    private static void greenIsRefused() {
        check.sentence("NONE. OUTSIDE (i below 0).");
        edges.bounds("green", Make::something, 0, 2147483647, OUTSIDE, LooksByMany::green);
        LooksByMany x = Make.something();
        edges.answers("green", -2, x::green, OUTSIDE, OUTSIDE, 4, NONE);
    }

    private static void given(LooksByMany x, int... due) {
        edges.answers("given", 0, x::given, due);
    }

    private static void givenOfNone() {
        check.sentence("GIVEN: what = 0 PICTURES, 1 LOOKS of others, 2 those with a wrong ANSWER.");
        given(new LooksByMany(), 0, 0, 0);
        // a machine without looks, looks of others alone, and what is not reckoned
        LooksByMany x = new LooksByMany();
        x.picture(1, 0, 1, true);
        Make.lookers(x, MACHINE, CAREFUL);
        given(x, 0, 0, 0);
        x.look(1, 0, 1);
        x.reckon();
        given(x, 0, 0, 0);
        x.look(0, 0, 1);
        given(x, 1, 1, 0);
        LooksByMany y = new LooksByMany();
        y.picture(1, 0, 1, true);
        y.looker(MACHINE);
        y.look(0, 0, 1);
        Make.laws(y, "sure 34;");
        given(y, 0, 0, 0);
    }

    // odds of 780 for SMOOTH, as EdgeReckonTest works them out; the picture is a RIGHT one
    private static void justSure() {
        check.sentence("with an ODDS of sure times 10 or more for its ANSWER");
        LooksByMany x = new LooksByMany();
        x.picture(2, 0, 1, false);
        Make.lookers(x, CAREFUL, MACHINE);
        x.look(0, 0, 3);
        x.look(1, 0, 0);
        x.reckon();
        check.due("odds(0, 0)", x.odds(0, 0), 780);
        given(x, 0, 0, 0);
        Make.laws(x, "sure 79;");
        given(x, 0, 0, 0);
        Make.laws(x, "sure 78;");
        given(x, 1, 1, 1);
        Make.laws(x, "sure 34;");
        given(x, 1, 1, 1);
        // 334 is not 340, by the least that sure can be
        LooksByMany y = new LooksByMany();
        y.picture(0, 0, 1, false);
        y.looker(MACHINE);
        y.reckon();
        y.look(0, 0, 0);
        Make.laws(y, "sure 34;");
        given(y, 0, 0, 0);
        LooksByMany z = new LooksByMany();
        z.picture(0, 0, 1, true);
        z.looker(MACHINE);
        z.look(0, 0, 0);
        z.reckon();
        Make.laws(z, "sure 99;");
        given(z, 1, 0, 0);
    }

    private static void someMachine() {
        check.sentence("PICTURES at which some MACHINE has a LOOK");
        for (int sort = 0; sort <= 5; sort++) {
            LooksByMany x = new LooksByMany();
            x.picture(1, 0, 1, true);
            x.looker(sort);
            x.look(0, 0, 1);
            x.reckon();
            given(x, sort == MACHINE ? 1 : 0, 0, 0);
        }
        for (int kind = 0; kind <= 2; kind++) {
            for (int answer = 0; answer <= 3; answer++) {
                LooksByMany x = new LooksByMany();
                x.picture(kind, 0, 1, true);
                x.looker(MACHINE);
                x.look(0, 0, answer);
                x.reckon();
                given(x, answer == kind ? 1 : 0, 0, 0);
            }
        }
        // two machines: one of them is enough, and the picture is one
        for (int first = 1; first <= 2; first++) {
            LooksByMany x = new LooksByMany();
            x.picture(1, 0, 1, true);
            Make.lookers(x, MACHINE, MACHINE, CAREFUL);
            x.look(0, 0, first);
            x.look(1, 0, 3 - first);
            x.look(2, 0, 2);
            x.reckon();
            given(x, 1, 1, 0);
        }
        LooksByMany y = new LooksByMany();
        y.picture(1, 0, 1, true);
        Make.lookers(y, MACHINE, MACHINE);
        y.look(0, 0, 1);
        y.look(1, 0, 1);
        y.reckon();
        given(y, 1, 0, 0);
    }

    private static void noneOfTheseIsNotSure() {
        check.sentence("ODDS .. for its ANSWER");
        LooksByMany x = new LooksByMany();
        x.picture(1, 0, 1, true);
        x.looker(MACHINE);
        x.look(0, 0, 3);
        x.reckon();
        Make.laws(x, "sure 34;");
        given(x, 0, 0, 0);
    }

    private static void looksOfOthers() {
        check.sentence("how many LOOKS of others (no MACHINES) at these");
        LooksByMany x = new LooksByMany();
        x.picture(1, 0, 1, true);
        x.picture(1, 0, 1, true);
        Make.lookers(x, MACHINE, MACHINE, 0, 1, 2, 3, 5, 0);
        x.look(0, 0, 1);
        x.look(1, 0, 2);
        x.look(0, 1, 2);
        for (int l = 2; l <= 7; l++) {
            // of any answer; those at 1, where no machine is sure, are none of these
            x.look(l, 0, l % 4);
            x.look(l, 1, 1);
        }
        x.reckon();
        given(x, 1, 6, 0);
    }

    private static void wrongAnswers() {
        check.sentence("how many of these have such an ANSWER (by ODDS of sure times 10 or more) that is not their KIND");
        // all take 0 for LEFT, 1 is taken for what it is, 2 is known and the machine is wrong without odds
        LooksByMany x = new LooksByMany();
        x.picture(2, 0, 1, false);
        x.picture(1, 0, 1, false);
        x.picture(2, 0, 1, true);
        Make.lookers(x, MACHINE, CAREFUL, CAREFUL);
        for (int l = 0; l < 3; l++) {
            Make.looks(x, l, 1, 1, l == 0 ? 1 : 2);
        }
        x.reckon();
        check.isTrue("0 is sure to be LEFT: " + x.odds(0, 1), x.odds(0, 1) >= 950);
        given(x, 2, 4, 1);
        // by 'sure 46' two machines give one picture two answers: it is one picture, and wrong by one of them
        LooksByMany y = new LooksByMany();
        y.picture(1, 0, 1, false);
        Make.lookers(y, MACHINE, MACHINE);
        y.look(0, 0, 1);
        y.look(1, 0, 2);
        y.reckon();
        edges.answers("odds(0, kind)", 0, kind -> y.odds(0, kind), 66, 468, 466);
        Make.laws(y, "sure 46;");
        given(y, 1, 0, 1);
        Make.laws(y, "sure 47;");
        given(y, 0, 0, 0);
    }

    private static void givenOfAll() {
        check.sentence("how many");
        LooksByMany x = new LooksByMany();
        for (int p = 0; p < 24; p++) {
            x.picture(0, 0, 1, true);
        }
        Make.lookers(x, MACHINE, 0, 0, 0, 0, 0, 0, 0);
        for (int k = 0; k < 192; k++) {
            x.look(k % 8, k / 8, 0);
        }
        x.reckon();
        given(x, 24, 168, 0);
    }

    private static void givenIsRefused() {
        check.sentence("GIVEN: .. OUTSIDE.");
        edges.bounds("given", Make::something, 0, 2, OUTSIDE, LooksByMany::given);
    }
}
