/** Promises 15 to 17: whom to show what next, evenings, who stays and who goes. */
public final class EveningsTest {
    private static final int NONE = -1;
    private static final Check check = new Check();

    public static void main(String[] args) {
        theFewestLooksComeFirst();
        likeOnesByRules();
        leastGreatestOdds();
        doneOnesAreNotShown();
        whoStays();
        onlyTheLastOnesMatter();
        anEveningByNumbers();
        anEveningEndsForThoseWhoGo();
        anEveningHasNothingToShow();
        check.end();
    }

    private static void theFewestLooksComeFirst() {
        LooksByMany x = new LooksByMany();
        Make.pictures(x, 3, 1, 0, 1);
        Make.lookers(x, 0, 0, 0);
        check.due("next(0, 0)", x.next(0, 0), 0);
        x.look(0, 0, 1);
        check.due("next(0, 0), 0 is looked at", x.next(0, 0), 1);
        check.due("next(1, 0), 0 has one look", x.next(1, 0), 1);
        x.look(1, 1, 1);
        x.look(1, 2, 1);
        check.due("next(1, 0), it has a look at the others", x.next(1, 0), 0);
        check.due("next(2, 0), all have one look", x.next(2, 0), 0);
        x.look(2, 0, 1);
        check.due("next(2, 2), all like but for numbers", x.next(2, 2), 1);
        x.look(1, 0, 1);
        check.due("next(1, 0), nothing is left", x.next(1, 0), NONE);
    }

    private static void likeOnesByRules() {
        LooksByMany x = new LooksByMany();
        x.picture(1, 0, 3, false);
        x.picture(1, 0, 9, false);
        x.picture(1, 0, 9, false);
        x.looker(0);
        check.due("the least number", x.next(0, 0), 0);
        check.due("like odds: the least number", x.next(0, 1), 0);
        check.due("the greatest depth, the least number", x.next(0, 2), 1);
        x.look(0, 1, 1);
        check.due("the next of that depth", x.next(0, 2), 2);
        x.looker(0);
        check.due("fewest looks go ahead of depth", x.next(1, 2), 2);
    }

    private static void leastGreatestOdds() {
        LooksByMany x = new LooksByMany();
        Make.pictures(x, 3, 1, 0, 1);
        Make.lookers(x, 0, 1, 2);
        Make.looks(x, 0, 1, 1, 1);
        Make.looks(x, 1, 1, 2, 1);
        x.reckon();
        Make.laws(x, "line 99;");
        int[] most = new int[3];
        for (int p = 0; p < 3; p++) {
            most[p] = Math.max(x.odds(p, 0), Math.max(x.odds(p, 1), x.odds(p, 2)));
        }
        check.isTrue("the picture of two answers has the least greatest odds", most[1] < most[0] && most[1] < most[2]);
        check.due("rule 1", x.next(2, 1), 1);
        check.due("rule 0", x.next(2, 0), 0);
        check.due("rule 2", x.next(2, 2), 0);
    }

    private static void doneOnesAreNotShown() {
        LooksByMany x = new LooksByMany();
        Make.pictures(x, 2, 1, 0, 1);
        x.picture(2, 0, 1, true);
        Make.lookers(x, 0, 0, 0);
        Make.laws(x, "most 1;");
        x.look(0, 0, 1);
        check.due("0 has its most looks", x.next(1, 0), 1);
        x.look(0, 1, 1);
        check.due("a known one is not done before it is reckoned", x.next(1, 0), 2);
        x.reckon();
        check.due("it is then", x.next(1, 0), NONE);
        Make.laws(x, "");
        check.due("by most as at first, 0 and 1 are open if their odds are not done",
                x.next(1, 0), x.told(0, 7) == 0 ? 0 : NONE);
    }

    private static void whoStays() {
        LooksByMany x = new LooksByMany();
        Make.pictures(x, 3, 1, 1, 1);
        Make.pictures(x, 1, 1, 0, 1);
        Make.lookers(x, 0, 0);
        check.due("stays without looks", x.stays(0), 1);
        Make.looks(x, 0, 1, 1);
        check.due("stays after two far ones", x.stays(0), 1);
        x.look(0, 2, 1);
        check.due("goes after three", x.stays(0), 0);
        check.due("another stays", x.stays(1), 1);
        x.look(0, 3, 1);
        check.due("stays after a near one", x.stays(0), 1);
    }

    private static void onlyTheLastOnesMatter() {
        LooksByMany x = new LooksByMany();
        Make.pictures(x, 1, 1, 0, 1);
        Make.pictures(x, 4, 1, 1, 1);
        Make.lookers(x, 0, 0);
        Make.looks(x, 0, 1, 1, 1);
        x.look(1, 0, 1);
        check.due("a near one is among the last three", x.stays(0), 1);
        x.look(0, 3, 1);
        x.look(1, 1, 1);
        check.due("the last three are far", x.stays(0), 0);
        Make.laws(x, "patience 4;");
        check.due("the last four are not", x.stays(0), 1);
        Make.laws(x, "patience 1;");
        check.due("the last one is far", x.stays(1), 0);
    }

    private static void anEveningByNumbers() {
        LooksByMany x = new LooksByMany();
        Make.pictures(x, 3, 1, 0, 1);
        Make.lookers(x, 0, 0, 0);
        check.due("an evening of 0 and 2", x.evening(5, 2, 0), 4);
        int[][] due = {{0, 0}, {2, 1}, {0, 2}, {2, 0}};
        for (int k = 0; k < due.length; k++) {
            check.due("looker of " + k, x.about(k, 0), due[k][0]);
            check.due("picture of " + k, x.about(k, 1), due[k][1]);
        }
        check.due("an evening of none", x.evening(0, 20, 0), 0);
    }

    private static void anEveningEndsForThoseWhoGo() {
        LooksByMany x = new LooksByMany();
        Make.pictures(x, 6, 1, 1, 1);
        Make.lookers(x, 0, 5);
        Make.laws(x, "patience 2;");
        check.due("each goes after two far ones", x.evening(3, 20, 0), 4);
        check.due("none stays", x.count(7), 0);
        check.due("an evening of those who went", x.evening(3, 20, 0), 0);
        Make.laws(x, "patience 9;");
        check.due("they stay by another law", x.evening(1, 3, 0), 3);
    }

    private static void anEveningHasNothingToShow() {
        LooksByMany x = new LooksByMany();
        Make.pictures(x, 2, 1, 0, 1);
        Make.lookers(x, 0, 0, 0);
        Make.laws(x, "most 2;");
        check.due("both are done after two looks", x.evening(7, 20, 0), 4);
        check.due("the third came to one of them in its turn", x.about(2, 0), 2);
        check.due("by the second turn one look was left", x.about(3, 0), 0);
    }
}
