/** Promises 27 to 31: things, weights, questions, the best tree, and what a wrong turn costs. */
public final class TreesTest {
    private static final int NONE = -1;
    private static final Check check = new Check();

    public static void main(String[] args) {
        thingsBeginAnew();
        weightsBecome();
        questionsBecome();
        halvesAreBest();
        weightsBendTheTree();
        likeQuestionsTheLeastFirst();
        whatCannotBeParted();
        wrongTurns();
        wrongTurnsThatAreNotParted();
        check.end();
    }

    private static void thingsBeginAnew() {
        LooksByMany x = new LooksByMany();
        check.due("things(2)", x.things(2), 2);
        check.due("things(8)", x.things(8), 8);
        x.weight(7, 50);
        x.question(5, 128);
        x.question(0, 7);
        check.due("things(8) again", x.things(8), 8);
        check.due("weights are 1", x.weight(7, 2), 1);
        check.due("questions are of none", x.question(5, 3), 0);
        check.due("nor is the first", x.question(0, 0), 0);
    }

    private static void weightsBecome() {
        LooksByMany x = Make.things(3);
        check.due("weight(0, 99)", x.weight(0, 99), 1);
        check.due("weight(0, 1)", x.weight(0, 1), 99);
    }

    private static void questionsBecome() {
        LooksByMany x = Make.things(3);
        check.due("question(0, 7)", x.question(0, 7), 0);
        check.due("question(0, 0)", x.question(0, 0), 7);
        check.due("question(5, 1)", x.question(5, 1), 0);
    }

    private static void tree(LooksByMany x, int set, int asks, int first, int depth) {
        check.due("tree(" + set + ", 0)", x.tree(set, 0), asks);
        check.due("tree(" + set + ", 1)", x.tree(set, 1), first);
        check.due("tree(" + set + ", 2)", x.tree(set, 2), depth);
    }

    private static void halvesAreBest() {
        LooksByMany x = Make.things(4, 1, 2, 4, 12, 10);
        tree(x, 15, 8, 3, 2);
        tree(x, 1, 0, NONE, 0);
        tree(x, 3, 2, 0, 1);
        tree(x, 12, 2, 2, 1);
        tree(x, 7, 5, 0, 2);
    }

    private static void weightsBendTheTree() {
        // one by one, the heaviest first: 9 * 1 + 3 * 2 + (1 + 1) * 3 = 21; by halves 14 * 2 = 28
        LooksByMany x = Make.things(4, 1, 2, 4, 3);
        x.weight(0, 9);
        x.weight(1, 3);
        tree(x, 15, 21, 0, 3);
        x.weight(0, 1);
        x.weight(1, 1);
        tree(x, 15, 8, 3, 2);
    }

    private static void likeQuestionsTheLeastFirst() {
        // 2 and 4 part alike, 0 and 1 part nothing at all
        LooksByMany x = Make.things(3, 0, 7, 3, 1, 4);
        tree(x, 7, 5, 2, 2);
        tree(x, 3, 2, 3, 1);
        tree(x, 6, 2, 2, 1);
    }

    private static void whatCannotBeParted() {
        LooksByMany x = Make.things(4, 3);
        tree(x, 15, 4, 0, 1);
        tree(x, 3, 0, NONE, 0);
        tree(x, 5, 2, 0, 1);
        x.question(0, 15);
        tree(x, 15, 0, NONE, 0);
        check.due("wrong(0), no question", x.wrong(0), 0);
    }

    private static void wrongTurns() {
        LooksByMany x = Make.things(8, 0x0F, 0x33, 0x55);
        for (int t = 0; t < 8; t++) {
            check.due("wrong(" + t + ")", x.wrong(t), 1 << (t ^ 4));
        }
    }

    private static void wrongTurnsThatAreNotParted() {
        // the first question takes 0 and 1 away; 2, 3, 4 are parted into 2 and the rest by the second
        LooksByMany x = Make.things(5, 3, 4);
        check.due("wrong(0)", x.wrong(0), 0x18);
        check.due("wrong(1)", x.wrong(1), 0x18);
        check.due("wrong(2)", x.wrong(2), 3);
        x.question(1, 4 + 1);
        check.due("wrong(0), answered as it is for 0", x.wrong(0), 4);
        check.due("wrong(1)", x.wrong(1), 0x18);
        check.due("wrong(2), on the other side 0 is as it", x.wrong(2), 1);
        check.due("wrong(4)", x.wrong(4), 2);
    }
}
