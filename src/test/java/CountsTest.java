/** Promise 9: how many there are of all that is counted. */
public final class CountsTest {
    private static final Check check = new Check();

    public static void main(String[] args) {
        counts();
        doneOnes();
        stayingOnes();
        roundsOfTheLatestReckoning();
        check.end();
    }

    private static void counts() {
        LooksByMany x = new LooksByMany();
        x.picture(1, 0, 1, true);
        x.picture(2, 0, 1, true);
        x.picture(0, 1, 1, false);
        x.mirror(1);
        Make.lookers(x, 0, 5);
        x.look(0, 0, 1);
        x.look(1, 0, 1);
        x.look(1, 3, 3);
        Make.text(x, "far 5;");
        int[] due = {4, 2, 3, 2, 1, 0, 6, 2, 0};
        for (int what = 0; what < due.length; what++) {
            check.due("count(" + what + ")", x.count(what), due[what]);
        }
    }

    private static void doneOnes() {
        LooksByMany x = new LooksByMany();
        Make.pictures(x, 3, 1, 0, 1);
        Make.lookers(x, 0, 0, 0);
        x.look(0, 1, 1);
        x.look(1, 1, 2);
        x.look(0, 2, 1);
        check.due("none is done", x.count(5), 0);
        Make.laws(x, "most 2;");
        check.due("two looks are enough", x.count(5), 1);
        check.due("told(1, 7)", x.told(1, 7), 1);
        Make.laws(x, "most 1;");
        check.due("one look is enough", x.count(5), 2);
        check.due("told(0, 7)", x.told(0, 7), 0);
    }

    private static void stayingOnes() {
        LooksByMany x = new LooksByMany();
        Make.pictures(x, 3, 1, 1, 1);
        Make.lookers(x, 0, 0, 0);
        Make.looks(x, 1, 0, 0, 0);
        Make.looks(x, 2, 0, 0);
        check.due("one goes after three far ones", x.count(7), 2);
        Make.laws(x, "patience 2;");
        check.due("two go after two", x.count(7), 1);
        Make.laws(x, "patience 4;");
        check.due("none goes", x.count(7), 3);
    }

    private static void roundsOfTheLatestReckoning() {
        LooksByMany x = new LooksByMany();
        check.due("none yet", x.count(8), 0);
        x.reckon();
        check.due("nothing to change", x.count(8), 1);
        x.picture(0, 1, 0, false);
        x.picture(1, 0, 0, true);
        Make.lookers(x, 0, 3);
        x.look(0, 0, 0);
        x.look(1, 0, 2);
        x.look(0, 1, 1);
        check.due("not by 40", x.reckon(), -41);
        check.due("40 were made", x.count(8), 40);
    }
}
