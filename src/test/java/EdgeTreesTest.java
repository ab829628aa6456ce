/** Boundary cases of promises 27 to 31 and of the fifth paragraph of 'Terms': each sentence has a test of its own. */
public final class EdgeTreesTest {
    private static final int NONE = -1, OUTSIDE = -1002;
    private static final Check check = new Check();
    private static final Edges edges = new Edges(check);

    public static void main(String[] args) {
        twoThingsAtFirst();
        twoToEightThings();
        weightsOfOneToNinetyNine();
        questionsNoughtToFive();
        setsOfQuestions();
        oneThing();
        nothingParts();
        whatIsPartedPart();
        sumOfAsks();
        mostAsks();
        leastOfLikeOnes();
        leastOfLikeOnesFurtherOn();
        leastAsks();
        otherSide();
        noQuestion();
        moreThanOneLeft();
        answeredAsForIt();
        wrongTurnOfLikeOnes();
        treesOfWhatWasToldLast();
        thingsBeginAnew();
        thingsIsRefused();
        weightIsRefused();
        questionIsRefused();
        treeIsRefused();
        wrongIsRefused();
        check.end();
    }

    private static void weights(LooksByMany x, int... weights) {
        for (int t = 0; t < weights.length; t++) {
            x.weight(t, weights[t]);
        }
    }

    private static void tree(LooksByMany x, int set, int asks, int first, int depth) {
        edges.answers("tree of " + set + ", what", 0, what -> x.tree(set, what), asks, first, depth);
    }

    private static void twoThingsAtFirst() {
        check.sentence("A TREE: THINGS 0 to n - 1 (n 2 .. 8; 2 at first)");
        LooksByMany x = new LooksByMany();
        edges.answers("weight(t, 1)", -1, t -> x.weight(t, 1), OUTSIDE, 1, 1, OUTSIDE);
        edges.answers("tree(set, 0)", 0, set -> x.tree(set, 0), OUTSIDE, 0, 0, 0, OUTSIDE);
        edges.answers("wrong", -1, x::wrong, OUTSIDE, 0, 0, OUTSIDE);
        edges.answers("question(0, set)", 2, set -> x.question(0, set), 0, 2, OUTSIDE);
    }

    private static void twoToEightThings() {
        check.sentence("A TREE: THINGS 0 to n - 1 (n 2 .. 8");
        for (int n = 2; n <= 8; n++) {
            LooksByMany x = new LooksByMany();
            check.due("things(" + n + ")", x.things(n), n);
            check.due("weight of the last", x.weight(n - 1, 2), 1);
            check.due("weight of one more", x.weight(n, 2), OUTSIDE);
            check.due("a question of the last", x.question(0, 1 << n - 1), 0);
            check.due("a question of one more", x.question(0, 1 << n), OUTSIDE);
            check.due("a tree of all", x.tree((1 << n) - 1, 1), 0);
            check.due("a tree of one more", x.tree(1 << n, 1), OUTSIDE);
            check.due("wrong of the last", x.wrong(n - 1), (1 << n - 1) - 1);
            check.due("wrong of one more", x.wrong(n), OUTSIDE);
        }
    }

    private static void weightsOfOneToNinetyNine() {
        check.sentence("have WEIGHTS (1 .. 99; 1 at first)");
        LooksByMany x = Make.things(8, 1);
        for (int t = 0; t < 8; t++) {
            check.due("weight(" + t + ", 99)", x.weight(t, 99), 1);
            check.due("weight(" + t + ", 1)", x.weight(t, 1), 99);
        }
        check.due("weight(0, 99)", x.weight(0, 99), 1);
        check.due("asks of a weight 99 and a weight 1", x.tree(3, 0), 100);
    }

    private static void questionsNoughtToFive() {
        check.sentence("QUESTIONS 0 to 5 part them");
        for (int k = 0; k <= 5; k++) {
            LooksByMany x = new LooksByMany();
            x.question(k, 1);
            tree(x, 3, 2, k, 1);
        }
    }

    private static void setsOfQuestions() {
        check.sentence("a SET of THINGS for which it is yes");
        // of none, of all: such a question parts nothing
        tree(Make.things(8, 0), 255, 0, NONE, 0);
        tree(Make.things(8, 255), 255, 0, NONE, 0);
        tree(Make.things(8, 0, 255, 128), 255, 8, 2, 1);
        tree(Make.things(8, 0, 255, 127), 255, 8, 2, 1);
        // it is of all of a smaller set, or of none of it
        tree(Make.things(8, 15), 15, 0, NONE, 0);
        tree(Make.things(8, 15), 240, 0, NONE, 0);
        tree(Make.things(8, 15), 24, 2, 0, 1);
    }

    private static void oneThing() {
        check.sentence("A TREE asks until THINGS that are left are one");
        LooksByMany x = Make.things(8, 1, 2, 4, 8, 16, 32);
        for (int t = 0; t < 8; t++) {
            tree(x, 1 << t, 0, NONE, 0);
        }
        tree(x, 3, 2, 0, 1);
    }

    private static void nothingParts() {
        check.sentence("or no QUESTION parts them");
        tree(new LooksByMany(), 3, 0, NONE, 0);
        LooksByMany x = Make.things(8, 1, 2, 4, 8, 16, 32);
        tree(x, 192, 0, NONE, 0);
        tree(x, 224, 3, 5, 1);
    }

    private static void whatIsPartedPart() {
        check.sentence("THE BEST TREE: those that part all that can be parted");
        // to ask nothing would be no ASKS at all
        tree(Make.things(4, 3, 5), 15, 8, 0, 2);
        tree(Make.things(4, 3), 15, 4, 0, 1);
    }

    private static void sumOfAsks() {
        check.sentence("ASKS: the sum over THINGS of WEIGHT times QUESTIONS asked");
        // 9 once, 3 twice, 2 and 1 three times
        LooksByMany x = Make.things(4, 1, 2, 4);
        weights(x, 9, 3, 2, 1);
        tree(x, 15, 24, 0, 3);
        tree(x, 14, 9, 1, 2);
        tree(x, 12, 3, 2, 1);
        tree(x, 9, 10, 0, 1);
    }

    private static void mostAsks() {
        check.sentence("ASKS: the sum over THINGS of WEIGHT times QUESTIONS asked");
        // one by one: 1 + 2 + 3 + 4 + 5 + 6 + 6 + 6 asked of weights 99
        LooksByMany x = Make.things(8, 1, 2, 4, 8, 16, 32);
        weights(x, 99, 99, 99, 99, 99, 99, 99, 99);
        tree(x, 255, 3267, 0, 6);
    }

    private static void leastOfLikeOnes() {
        check.sentence("the first QUESTION of it (of like ones the least");
        tree(Make.things(2, 0, 3, 2, 1), 3, 2, 2, 1);
        tree(Make.things(2, 0, 0, 0, 0, 1, 2), 3, 2, 4, 1);
        // 2 once, 1 twice, 1 and 1 three times are 10, as all twice are
        LooksByMany x = Make.things(4, 1, 2, 4, 3);
        weights(x, 2, 1, 1, 1);
        tree(x, 15, 10, 0, 3);
        LooksByMany y = Make.things(4, 3, 1, 2, 4);
        weights(y, 2, 1, 1, 1);
        tree(y, 15, 10, 0, 2);
    }

    private static LooksByMany likeOnesFurtherOn(int... questions) {
        LooksByMany x = Make.things(5, questions);
        weights(x, 2, 1, 1, 1, 99);
        return x;
    }

    private static void leastOfLikeOnesFurtherOn() {
        check.sentence("(of like ones the least, so further on, too)");
        tree(likeOnesFurtherOn(16, 1, 2, 4, 3), 31, 114, 0, 4);
        tree(likeOnesFurtherOn(16, 3, 1, 2, 4), 31, 114, 0, 3);
    }

    private static void leastAsks() {
        check.sentence("with the least ASKS");
        // by halves first, though it is the greatest of the questions
        tree(Make.things(4, 1, 2, 4, 8, 0, 3), 15, 8, 5, 2);
        LooksByMany x = Make.things(4, 1, 2, 4, 8, 0, 3);
        weights(x, 99, 1, 1, 1);
        tree(x, 15, 107, 0, 3);
    }

    private static void otherSide() {
        check.sentence("WRONG TURN: THINGS that can be come to, if the first ANSWER is wrong");
        LooksByMany x = Make.things(2, 1);
        check.due("wrong(0)", x.wrong(0), 2);
        check.due("wrong(1)", x.wrong(1), 1);
        LooksByMany y = Make.things(8, 0x0F, 0x33, 0x55);
        for (int t = 0; t < 8; t++) {
            check.due("wrong(" + t + ")", y.wrong(t), 1 << (t ^ 4));
        }
    }

    private static void noQuestion() {
        check.sentence("the SET (0: there is no QUESTION)");
        edges.answers("wrong of two, no question", 0, new LooksByMany()::wrong, 0, 0);
        edges.answers("wrong of three, a question of all", 0, Make.things(3, 7)::wrong, 0, 0, 0);
        edges.answers("wrong of three, a question of one", 0, Make.things(3, 4)::wrong, 4, 4, 3);
    }

    private static void moreThanOneLeft() {
        check.sentence("what is left at the end (a SET: of those on the other side");
        edges.answers("wrong", 0, Make.things(8, 1)::wrong, 254, 1, 1, 1, 1, 1, 1, 1);
        // the first question takes 0 and 1 away; of 2, 3, 4 the second takes 2
        edges.answers("wrong", 0, Make.things(5, 3, 4)::wrong, 24, 24, 3, 3, 3);
    }

    private static void answeredAsForIt() {
        check.sentence("by QUESTIONS of THE BEST TREE there, answered as they are for t)");
        edges.answers("wrong", 0, Make.things(5, 3, 5)::wrong, 4, 24, 1, 2, 2);
    }

    private static void wrongTurnOfLikeOnes() {
        check.sentence("by QUESTIONS of THE BEST TREE there");
        // 4 is taken first; of the others {0} and {0, 1} are like ones, and it is 4's own answer that tells
        check.due("by {0, 4} first", likeOnesFurtherOn(16, 17, 2, 4, 3).wrong(4), 1);
        check.due("by {0, 1} first", likeOnesFurtherOn(16, 3, 17, 2, 4).wrong(4), 8);
        // the first question of the other side may be 0
        check.due("by 1, then by 0", likeOnesFurtherOn(3, 16).wrong(4), 12);
    }

    /** Each question of a tree is asked first of all once, and once more when weights and questions are others. */
    private static void treesOfWhatWasToldLast() {
        check.sentence("WEIGHT of a THING becomes v .. A QUESTION (0 .. 5) is yes for a SET");
        int[] before = {8, 1, 2};
        int[] weighed = {17, 0, 3};
        int[] asked = {10, 2, 2};
        for (int what = 0; what <= 2; what++) {
            LooksByMany x = Make.things(4, 1, 3, 4);
            check.due("tree(15, " + what + ")", x.tree(15, what), before[what]);
            x.weight(0, 9);
            check.due("tree(15, " + what + "), 0 is heavier", x.tree(15, what), weighed[what]);
            x.weight(0, 1);
            x.weight(1, 2);
            x.question(0, 0);
            x.question(1, 0);
            x.question(2, 5);
            x.question(5, 6);
            check.due("tree(15, " + what + "), by other questions", x.tree(15, what), asked[what]);
        }
        LooksByMany y = Make.things(3, 1, 2);
        check.due("wrong(0)", y.wrong(0), 4);
        y.question(0, 0);
        check.due("wrong(0), by one question", y.wrong(0), 2);
        y.question(1, 7);
        check.due("wrong(0), by none", y.wrong(0), 0);
    }

    private static void thingsBeginAnew() {
        check.sentence("n THINGS, WEIGHTS 1, all QUESTIONS of no THING: n.");
        LooksByMany x = Make.things(8, 1, 2, 4, 8, 16, 32);
        weights(x, 9, 9, 9, 9, 9, 9, 9, 9);
        tree(x, 255, 297, 0, 6);
        check.due("things(8)", x.things(8), 8);
        tree(x, 255, 0, NONE, 0);
        for (int t = 0; t < 8; t++) {
            check.due("weight(" + t + ", 9)", x.weight(t, 9), 1);
        }
        for (int k = 0; k <= 5; k++) {
            check.due("question(" + k + ", 128)", x.question(k, 128), 0);
        }
        check.due("things(2)", x.things(2), 2);
        check.due("what was of 8 is gone", x.tree(4, 0), OUTSIDE);
        check.due("things(8)", x.things(8), 8);
        check.due("and does not come back", x.weight(7, 1), 1);
        check.due("nor do questions", x.question(5, 0), 0);
    }

    private static void thingsIsRefused() {
        check.sentence("n THINGS .. OUTSIDE.");
        edges.bounds("things", Make::something, 2, 8, OUTSIDE, LooksByMany::things);
    }

    private static void weightIsRefused() {
        check.sentence("WEIGHT of a THING becomes v: what it was. OUTSIDE.");
        edges.bounds("the thing of weight", Make::something, 0, 3, OUTSIDE, (x, t) -> x.weight(t, 5));
        edges.bounds("the v of weight", Make::something, 1, 99, OUTSIDE, (x, v) -> x.weight(1, v));
        edges.answers("weight(1, v)", 0, v -> Make.something().weight(1, v), OUTSIDE, 9);
    }

    private static void questionIsRefused() {
        check.sentence("A QUESTION (0 .. 5) is yes for a SET: what it was. OUTSIDE.");
        edges.bounds("the question", Make::something, 0, 5, OUTSIDE, (x, k) -> x.question(k, 9));
        edges.bounds("the set of question", Make::something, 0, 15, OUTSIDE, (x, set) -> x.question(4, set));
        edges.bounds("the set of two things", LooksByMany::new, 0, 3, OUTSIDE, (x, set) -> x.question(5, set));
        edges.bounds("the set of eight things", () -> Make.things(8), 0, 255, OUTSIDE, (x, set) -> x.question(0, set));
        edges.refused("bits beside things", Make::something, OUTSIDE, x -> x.question(0, 17));
        check.due("what it was", Make.something().question(4, 0), 5);
        check.due("what none was", Make.something().question(5, 0), 0);
    }

    private static void treeIsRefused() {
        check.sentence("OUTSIDE (the SET: none, or bits; what).");
        edges.bounds("the set of tree", Make::something, 1, 15, OUTSIDE, (x, set) -> x.tree(set, 0));
        edges.bounds("the set of two things", LooksByMany::new, 1, 3, OUTSIDE, (x, set) -> x.tree(set, 1));
        edges.bounds("the set of eight things", () -> Make.things(8), 1, 255, OUTSIDE, (x, set) -> x.tree(set, 2));
        edges.bounds("what of tree", Make::something, 0, 2, OUTSIDE, (x, what) -> x.tree(15, what));
        edges.refused("bits beside things", Make::something, OUTSIDE, x -> x.tree(17, 0));
    }

    private static void wrongIsRefused() {
        check.sentence("WRONG TURN of a THING in THE BEST TREE of all: .. OUTSIDE.");
        edges.bounds("wrong", Make::something, 0, 3, OUTSIDE, LooksByMany::wrong);
        edges.bounds("wrong of two things", LooksByMany::new, 0, 1, OUTSIDE, LooksByMany::wrong);
        edges.bounds("wrong of eight things", () -> Make.things(8, 1), 0, 7, OUTSIDE, LooksByMany::wrong);
    }
}
