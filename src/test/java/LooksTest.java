/** Promises 11 to 14: the seed, looks told by hand, looks made by draws, what is told of looks. */
public final class LooksTest {
    private static final int UNKNOWN = -1001, OUTSIDE = -1002, NOT = -1003;
    private static final int CAREFUL = 0, LEANING = 1, TIRED = 2, RANDOM = 3, MACHINE = 4, ASKING = 5;
    private static final Check check = new Check();

    public static void main(String[] args) {
        theSeedBecomes();
        looksByHand();
        looksAreRefused();
        allLooksThereCanBe();
        saysIsRefused();
        carefulOnes();
        carefulOnesAtFarOnes();
        leaningOnes();
        tiredOnes();
        randomOnes();
        machines();
        askingOnes();
        aboutLooks();
        onlyTheFirstSixCount();
        check.end();
    }

    private static void theSeedBecomes() {
        LooksByMany x = new LooksByMany();
        check.due("seed(7)", x.seed(7), 0);
        check.due("seed(2147483647)", x.seed(2147483647), 7);
        check.due("seed(-1)", x.seed(-1), OUTSIDE);
        check.due("seed(0)", x.seed(0), 2147483647);
        x.picture(1, 0, 1, false);
        x.looker(CAREFUL);
        x.says(0, 0);
        // 0 times the factor and 12345
        check.due("seed(3), after one draw", x.seed(3), 12345);
    }

    private static void looksByHand() {
        LooksByMany x = new LooksByMany();
        Make.pictures(x, 2, 1, 0, 1);
        Make.lookers(x, CAREFUL, MACHINE);
        check.due("look(0, 1, 3)", x.look(0, 1, 3), 0);
        check.due("look(1, 1, 0)", x.look(1, 1, 0), 1);
        check.due("look(0, 0, 2)", x.look(0, 0, 2), 2);
        check.due("count(2)", x.count(2), 3);
        check.due("seed(0): no draws by hand", x.seed(0), 0);
    }

    private static void looksAreRefused() {
        LooksByMany x = new LooksByMany();
        Make.pictures(x, 2, 1, 0, 1);
        x.looker(CAREFUL);
        x.look(0, 0, 1);
        check.due("look(-1, 0, 1)", x.look(-1, 0, 1), UNKNOWN);
        check.due("look(1, 0, 1)", x.look(1, 0, 1), UNKNOWN);
        check.due("look(0, -1, 1)", x.look(0, -1, 1), UNKNOWN);
        check.due("look(0, 2, 1)", x.look(0, 2, 1), UNKNOWN);
        check.due("look(0, 2, 4)", x.look(0, 2, 4), UNKNOWN);
        check.due("look(0, 1, 4)", x.look(0, 1, 4), OUTSIDE);
        check.due("look(0, 1, -1)", x.look(0, 1, -1), OUTSIDE);
        check.due("look(0, 0, 4)", x.look(0, 0, 4), OUTSIDE);
        check.due("look(0, 0, 2)", x.look(0, 0, 2), NOT);
        check.due("count(2)", x.count(2), 1);
        check.due("about(0, 2)", x.about(0, 2), 1);
    }

    // 24 pictures times 8 lookers are 192 looks: 200 can not be come to
    private static void allLooksThereCanBe() {
        LooksByMany x = new LooksByMany();
        Make.pictures(x, 24, 1, 0, 1);
        Make.lookers(x, 0, 0, 0, 0, 0, 0, 0, 0);
        for (int k = 0; k < 192; k++) {
            check.due("look " + k, x.look(k / 24, k % 24, 1), k);
        }
        check.due("count(2)", x.count(2), 192);
        check.due("look again", x.look(7, 23, 1), NOT);
        check.due("says again", x.says(7, 23), NOT);
    }

    private static void saysIsRefused() {
        LooksByMany x = new LooksByMany();
        Make.pictures(x, 1, 1, 0, 1);
        x.looker(CAREFUL);
        x.seed(5);
        check.due("says(-1, 0)", x.says(-1, 0), UNKNOWN);
        check.due("says(1, 0)", x.says(1, 0), UNKNOWN);
        check.due("says(0, -1)", x.says(0, -1), UNKNOWN);
        check.due("says(0, 1)", x.says(0, 1), UNKNOWN);
        x.look(0, 0, 2);
        check.due("says(0, 0)", x.says(0, 0), NOT);
        check.due("seed(5): refusals draw nothing", x.seed(5), 5);
        check.due("count(2)", x.count(2), 1);
    }

    private static void carefulOnes() {
        says(CAREFUL, 1, 0, 1, "", 1, 89);
        says(CAREFUL, 2, 0, 9, "", 2, 0);
        says(CAREFUL, 1, 0, 1, "", 0, 90, 0);
        says(CAREFUL, 1, 0, 1, "", 1, 99, 31);
        says(CAREFUL, 1, 0, 1, "", 2, 99, 2);
        says(CAREFUL, 1, 0, 1, "sharp 100;", 1, 99);
        says(CAREFUL, 1, 0, 1, "sharp 0;", 2, 0, 98);
        says(CAREFUL, 1, 0, 1, "sharp 40;", 1, 39);
        says(CAREFUL, 1, 0, 1, "sharp 40;", 0, 40, 99);
    }

    private static void carefulOnesAtFarOnes() {
        says(CAREFUL, 1, 1, 1, "", 1, 59);
        says(CAREFUL, 1, 1, 1, "", 0, 60);
        says(CAREFUL, 2, 1, 1, "far 10;", 2, 9);
        says(CAREFUL, 2, 1, 1, "far 10;", 0, 10);
    }

    private static void leaningOnes() {
        says(LEANING, 1, 0, 1, "", 1, 10);
        says(LEANING, 0, 0, 1, "", 0, 10);
        says(LEANING, 2, 0, 1, "", 1, 10, 29);
        says(LEANING, 2, 0, 1, "", 2, 10, 30);
        says(LEANING, 1, 0, 1, "", 1, 95, 2, 29);
        says(LEANING, 1, 0, 1, "", 2, 95, 2, 30);
        says(LEANING, 1, 0, 1, "", 0, 95, 3);
        says(LEANING, 2, 1, 1, "", 0, 95);
        says(LEANING, 2, 1, 1, "", 1, 10, 0);
        says(LEANING, 2, 0, 1, "lean 0;", 2, 10, 0);
        says(LEANING, 2, 0, 1, "lean 100;", 1, 10, 99);
    }

    private static void tiredOnes() {
        says(TIRED, 1, 0, 1, "", 1, 89);
        says(TIRED, 1, 1, 1, "", 0, 60);
        saysAfter(2, 1, 0, "", 1, 79);
        saysAfter(2, 1, 0, "", 2, 80, 2);
        saysAfter(3, 1, 1, "", 1, 44);
        saysAfter(3, 1, 1, "", 0, 45);
        saysAfter(1, 1, 0, "tire 99;", 2, 0, 2);
        saysAfter(4, 1, 0, "tire 0;", 1, 89);
    }

    private static void randomOnes() {
        says(RANDOM, 1, 0, 1, "", 0, 99);
        says(RANDOM, 0, 1, 9, "", 1, 1);
        says(RANDOM, 0, 0, 9, "", 2, 98);
        says(RANDOM, 1, 0, 1, "", 0, 0);
    }

    private static void machines() {
        says(MACHINE, 1, 0, 4, "sharp 0;", 1, 99);
        says(MACHINE, 2, 1, 0, "far 0;", 2, 99);
        says(MACHINE, 1, 0, 5, "sharp 100;", 1, 33);
        says(MACHINE, 1, 0, 5, "sharp 100;", 2, 34, 2);
        says(MACHINE, 1, 1, 9, "far 100;", 1, 33);
        says(MACHINE, 1, 1, 9, "far 100;", 0, 34);
    }

    private static void askingOnes() {
        says(ASKING, 1, 0, 8, "", 3);
        says(ASKING, 2, 1, 9, "", 3);
        says(ASKING, 2, 0, 7, "", 2, 89);
        says(ASKING, 2, 0, 7, "", 1, 90, 1);
        says(ASKING, 2, 1, 7, "", 0, 60);
        says(CAREFUL, 2, 0, 9, "", 2, 89);
    }

    private static void aboutLooks() {
        LooksByMany x = new LooksByMany();
        Make.pictures(x, 3, 2, 0, 1);
        Make.lookers(x, 0, 0);
        x.look(1, 2, 3);
        x.seed(Make.seedGiving(10));
        x.says(0, 1);
        int[][] due = {{1, 2, 3, 1}, {0, 1, 2, 1}};
        for (int k = 0; k < 2; k++) {
            for (int what = 0; what < 4; what++) {
                check.due("about(" + k + ", " + what + ")", x.about(k, what), due[k][what]);
            }
        }
        check.due("about(2, 0)", x.about(2, 0), UNKNOWN);
        check.due("about(-1, 9)", x.about(-1, 9), UNKNOWN);
        check.due("about(0, 4)", x.about(0, 4), OUTSIDE);
        check.due("about(0, -1)", x.about(0, -1), OUTSIDE);
    }

    private static void onlyTheFirstSixCount() {
        LooksByMany x = new LooksByMany();
        Make.pictures(x, 2, 1, 0, 1);
        Make.lookers(x, 0, 0, 0, 0, 0, 0, 0, 0);
        for (int l = 7; l >= 0; l--) {
            x.look(l, 0, 1);
            x.look(l, 1, 2);
        }
        for (int k = 0; k < 16; k++) {
            check.due("about(" + k + ", 3)", x.about(k, 3), k < 12 ? 1 : 0);
        }
    }

    /** One looker of a sort at one picture, with draws steered: the answer, and that just these were drawn. */
    private static void says(int sort, int kind, int far, int depth, String laws, int want, int... draws) {
        LooksByMany x = new LooksByMany();
        x.picture(kind, far, depth, false);
        x.looker(sort);
        if (!laws.isEmpty()) {
            Make.laws(x, laws);
        }
        int seed = Make.seedGiving(draws);
        x.seed(seed);
        check.due("says of sort " + sort + " at " + kind + far + depth + laws, x.says(0, 0), want);
        check.due("draws of it", x.seed(0), Make.seedAfter(seed, draws.length));
    }

    /** A tired one that has looked some times before, by hand. */
    private static void saysAfter(int before, int kind, int far, String laws, int want, int... draws) {
        LooksByMany x = new LooksByMany();
        Make.pictures(x, before + 1, kind, far, 1);
        Make.lookers(x, TIRED, CAREFUL);
        for (int p = 0; p < before; p++) {
            x.look(0, p, 1);
        }
        // the looks of others do not tire it
        x.look(1, before, 0);
        if (!laws.isEmpty()) {
            Make.laws(x, laws);
        }
        int seed = Make.seedGiving(draws);
        x.seed(seed);
        check.due("says of a tired one after " + before + laws, x.says(0, before), want);
        check.due("draws of it", x.seed(0), Make.seedAfter(seed, draws.length));
    }
}
