/** Promises 11 to 14: the seed, looks told by hand, looks made by draws, what is told of looks. */
public final class LooksTest {
    private static final int CAREFUL = 0, LEANING = 1, TIRED = 2, RANDOM = 3, MACHINE = 4, ASKING = 5;
    private static final Check check = new Check();
    private static final Steered steered = new Steered(check);

    public static void main(String[] args) {
        theSeedBecomes();
        looksByHand();
        carefulOnes();
        carefulOnesAtFarOnes();
        leaningOnes();
        tiredOnes();
        randomOnes();
        machines();
        askingOnes();
        aboutLooks();
        check.end();
    }

    private static void theSeedBecomes() {
        LooksByMany x = new LooksByMany();
        check.due("seed(7)", x.seed(7), 0);
        check.due("seed(0)", x.seed(0), 7);
        x.picture(1, 0, 1, false);
        x.looker(CAREFUL);
        x.says(0, 0);
        // 0 times the factor and 12345
        check.due("seed(3), after one draw", x.seed(3), 12345);
    }

    private static void looksByHand() {
        LooksByMany x = new LooksByMany();
        Make.pictures(x, 2, 1, 0, 1);
        Make.lookers(x, CAREFUL, MACHINE);
        check.due("look(0, 1, 3)", x.look(0, 1, 3), 0);
        check.due("look(1, 1, 0)", x.look(1, 1, 0), 1);
        check.due("look(0, 0, 2)", x.look(0, 0, 2), 2);
        check.due("count(2)", x.count(2), 3);
        check.due("seed(0): no draws by hand", x.seed(0), 0);
    }

    private static void carefulOnes() {
        steered.says(CAREFUL, 1, 0, 1, "", 1, 50);
        steered.says(CAREFUL, 2, 0, 9, "", 2, 7);
        steered.says(CAREFUL, 0, 0, 1, "", 0, 70);
        steered.says(CAREFUL, 1, 0, 1, "", 1, 95, 31);
        steered.says(CAREFUL, 1, 0, 1, "", 2, 95, 32);
        steered.says(CAREFUL, 1, 0, 1, "sharp 20;", 0, 50, 33);
    }

    private static void carefulOnesAtFarOnes() {
        steered.says(CAREFUL, 1, 1, 1, "", 1, 30);
        steered.says(CAREFUL, 1, 1, 1, "", 0, 80);
        steered.says(CAREFUL, 2, 1, 1, "far 20;", 0, 30);
    }

    private static void leaningOnes() {
        steered.says(LEANING, 1, 0, 1, "", 1, 10);
        steered.says(LEANING, 0, 0, 1, "", 0, 10);
        steered.says(LEANING, 2, 0, 1, "", 1, 10, 20);
        steered.says(LEANING, 2, 0, 1, "", 2, 10, 60);
        steered.says(LEANING, 1, 0, 1, "", 1, 95, 2, 20);
        steered.says(LEANING, 1, 0, 1, "", 0, 95, 33);
        steered.says(LEANING, 2, 1, 1, "", 0, 95);
        steered.says(LEANING, 2, 0, 1, "lean 70;", 1, 10, 60);
    }

    private static void tiredOnes() {
        steered.says(TIRED, 1, 0, 1, "", 1, 50);
        steered.says(TIRED, 1, 1, 1, "", 0, 80);
        steered.saysAfter(4, TIRED, 1, 0, "", 1, 60);
        steered.saysAfter(4, TIRED, 1, 0, "", 2, 75, 32);
        steered.saysAfter(2, TIRED, 1, 1, "tire 20;", 0, 40);
    }

    private static void randomOnes() {
        steered.says(RANDOM, 1, 0, 1, "", 0, 51);
        steered.says(RANDOM, 0, 1, 9, "", 1, 52);
        steered.says(RANDOM, 0, 0, 9, "", 2, 53);
    }

    private static void machines() {
        steered.says(MACHINE, 1, 0, 2, "", 1, 95);
        steered.says(MACHINE, 2, 1, 2, "", 2, 95);
        steered.says(MACHINE, 1, 0, 7, "", 1, 20);
        steered.says(MACHINE, 1, 0, 7, "", 2, 50, 32);
        steered.says(MACHINE, 1, 1, 7, "", 0, 50);
    }

    private static void askingOnes() {
        steered.says(ASKING, 1, 0, 9, "", 3);
        steered.says(ASKING, 2, 0, 3, "", 2, 50);
        steered.says(ASKING, 2, 0, 3, "", 1, 95, 31);
        steered.says(ASKING, 2, 1, 3, "", 0, 80);
    }

    private static void aboutLooks() {
        LooksByMany x = new LooksByMany();
        Make.pictures(x, 3, 2, 0, 1);
        Make.lookers(x, 0, 0);
        x.look(1, 2, 3);
        x.seed(Make.seedGiving(10));
        x.says(0, 1);
        int[][] due = {{1, 2, 3, 1}, {0, 1, 2, 1}};
        for (int k = 0; k < 2; k++) {
            for (int what = 0; what < 4; what++) {
                check.due("about(" + k + ", " + what + ")", x.about(k, what), due[k][what]);
            }
        }
    }
}
