/** Promises 18 to 22: what is reckoned, odds, tables, the sky, shares of far ones. */
public final class ReckonTest {
    private static final Check check = new Check();

    public static void main(String[] args) {
        nothingChanges();
        oneLook();
        aKnownOne();
        whatIsLeftGoesToTheFirstGreatest();
        reckonedFromTheBeginning();
        notByForty();
        lineOfDone();
        farShares();
        check.end();
    }

    private static void odds(LooksByMany x, int p, int... due) {
        for (int kind = 0; kind < 3; kind++) {
            check.due("odds(" + p + ", " + kind + ")", x.odds(p, kind), due[kind]);
        }
    }

    private static void sky(LooksByMany x, int... due) {
        for (int kind = 0; kind < 3; kind++) {
            check.due("sky(" + kind + ")", x.sky(kind), due[kind]);
        }
    }

    private static void table(LooksByMany x, int l, int kind, int... due) {
        for (int answer = 0; answer < 4; answer++) {
            check.due("table(" + l + ", " + kind + ", " + answer + ")", x.table(l, kind, answer), due[answer]);
        }
    }

    private static void tableAsAtFirst(LooksByMany x, int l) {
        table(x, l, 0, 70, 10, 10, 10);
        table(x, l, 1, 10, 70, 10, 10);
        table(x, l, 2, 10, 10, 70, 10);
    }

    private static void nothingChanges() {
        LooksByMany x = new LooksByMany();
        check.due("reckon() of nothing", x.reckon(), 1);
        sky(x, 334, 333, 333);
        Make.pictures(x, 5, 1, 0, 1);
        x.looker(0);
        check.due("reckon() without looks", x.reckon(), 1);
        odds(x, 4, 334, 333, 333);
        sky(x, 334, 333, 333);
        tableAsAtFirst(x, 0);
    }

    // 3340, 23310, 3330 of 29980: 111, 777, 111, and 1 that is left
    private static void oneLook() {
        LooksByMany x = new LooksByMany();
        x.picture(1, 0, 1, false);
        Make.lookers(x, 0, 0);
        x.look(0, 0, 1);
        odds(x, 0, 334, 333, 333);
        check.due("reckon()", x.reckon(), 2);
        check.due("count(8)", x.count(8), 2);
        odds(x, 0, 111, 778, 111);
        for (int kind = 0; kind < 3; kind++) {
            table(x, 0, kind, 1, 97, 1, 1);
        }
        tableAsAtFirst(x, 1);
        sky(x, 111, 778, 111);
    }

    // the rows of kinds without odds stay as they were, and a sky of 0 is made 1
    private static void aKnownOne() {
        LooksByMany x = new LooksByMany();
        x.picture(1, 0, 1, true);
        x.picture(1, 0, 1, true);
        x.picture(1, 0, 1, true);
        x.looker(0);
        Make.looks(x, 0, 2, 1, 2);
        check.due("reckon()", x.reckon(), 2);
        odds(x, 0, 0, 1000, 0);
        table(x, 0, 0, 70, 10, 10, 10);
        table(x, 0, 1, 1, 33, 65, 1);
        table(x, 0, 2, 10, 10, 70, 10);
        sky(x, 1, 1000, 1);
    }

    // 33400, 233100, 233100 of 499600: 66, 466, 466, and 2 that are left go to LEFT; tables are 97 for all then
    private static void whatIsLeftGoesToTheFirstGreatest() {
        LooksByMany x = new LooksByMany();
        x.picture(1, 0, 1, false);
        Make.lookers(x, 0, 0);
        x.look(0, 0, 2);
        x.look(1, 0, 1);
        check.due("reckon()", x.reckon(), 2);
        odds(x, 0, 66, 468, 466);
        sky(x, 66, 468, 466);
        // three kinds, one picture each that is known: 333 each, and 1 that is left to SMOOTH
        LooksByMany y = new LooksByMany();
        for (int kind = 0; kind < 3; kind++) {
            y.picture(kind, 0, 1, true);
        }
        y.reckon();
        sky(y, 334, 333, 333);
    }

    private static void reckonedFromTheBeginning() {
        LooksByMany x = new LooksByMany();
        x.picture(1, 0, 5, false);
        x.mirror(0);
        x.picture(2, 0, 5, true);
        Make.lookers(x, 0, 1, 2);
        Make.looks(x, 0, 1, 1, 2);
        Make.looks(x, 1, 2, 1, 1);
        int rounds = x.reckon();
        int[] before = {x.odds(0, 0), x.odds(0, 1), x.odds(0, 2)};
        check.isTrue("there is something to find", rounds > 2);
        check.due("reckon() again", x.reckon(), rounds);
        odds(x, 0, before);
        tableAsAtFirst(x, 2);
    }

    private static void notByForty() {
        LooksByMany x = new LooksByMany();
        x.picture(0, 1, 0, false);
        x.picture(1, 0, 0, true);
        Make.lookers(x, 0, 3);
        x.look(0, 0, 0);
        x.look(1, 0, 2);
        x.look(0, 1, 1);
        check.due("reckon()", x.reckon(), -41);
        check.due("odds(0, 0), as the fortieth round left it", x.odds(0, 0), 544);
        odds(x, 1, 0, 1000, 0);
    }

    private static void lineOfDone() {
        LooksByMany x = new LooksByMany();
        x.picture(1, 0, 1, false);
        x.looker(0);
        x.look(0, 0, 1);
        Make.laws(x, "line 77;");
        check.due("told(0, 7), not reckoned", x.told(0, 7), 0);
        x.reckon();
        check.due("told(0, 7), 778 by a line of 770", x.told(0, 7), 1);
        Make.laws(x, "line 78;");
        check.due("told(0, 7), 778 by a line of 780", x.told(0, 7), 0);
        check.due("count(5)", x.count(5), 0);
    }

    // far ones: 111 and 334 SMOOTH, 778 and 333 LEFT, 111 and 333 RIGHT; the near one is not of them
    private static void farShares() {
        LooksByMany x = new LooksByMany();
        x.picture(1, 1, 1, false);
        x.looker(0);
        x.look(0, 0, 1);
        x.reckon();
        x.picture(1, 1, 1, false);
        x.picture(1, 0, 1, false);
        int[][] due = {{0, 445, 1111, 444}, {1, 441, 1113, 446}, {50, 223, 1222, 555}, {99, 5, 1331, 664},
                {100, 1, 1333, 666}};
        for (int[] row : due) {
            for (int kind = 0; kind < 3; kind++) {
                check.due("far(" + row[0] + ", " + kind + ")", x.far(row[0], kind), row[1 + kind]);
            }
        }
    }
}
