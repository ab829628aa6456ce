/** Boundary cases of promises 11 to 14 and of what lookers say in 'Terms': each sentence has a test of its own. */
public final class EdgeLooksTest {
    private static final int UNKNOWN = -1001, OUTSIDE = -1002, NOT = -1003;
    private static final int CAREFUL = 0, LEANING = 1, TIRED = 2, RANDOM = 3, MACHINE = 4, ASKING = 5;
    private static final Check check = new Check();
    private static final Edges edges = new Edges(check);
    private static final Steered steered = new Steered(check);

    public static void main(String[] args) {
        drawsAreOfNoughtToNinetyNine();
        theSeedAtFirst();
        theSeedWrapsAround();
        theDrawIsLeftOver();
        eyesOfNearOnes();
        eyesOfFarOnes();
        eyesThatTire();
        eyesBelowNought();
        eyesOfMachines();
        randomOnes();
        farOnesNotSeen();
        secondDraws();
        leansToTheLeft();
        leansOnlyOfRightOnes();
        askingOnes();
        seedIsRefused();
        lookIsRefused();
        saysIsRefused();
        firstSixCount();
        aboutIsRefused();
        noLooksAndAllLooks();
        check.end();
    }

    private static void drawsAreOfNoughtToNinetyNine() {
        check.sentence("by DRAWS: each is one of 0 .. 99");
        // the eye of 0 sees by no draw, that of 100 by each
        steered.says(CAREFUL, 1, 1, 1, "far 0;", 0, 0);
        steered.says(CAREFUL, 1, 1, 1, "far 1;", 1, 0);
        steered.says(CAREFUL, 1, 1, 1, "far 99;", 0, 99);
        steered.says(CAREFUL, 1, 1, 1, "far 100;", 1, 99);
    }

    private static void theSeedAtFirst() {
        check.sentence("THE SEED (0 at first)");
        check.due("seed(5)", new LooksByMany().seed(5), 0);
        LooksByMany x = new LooksByMany();
        x.picture(1, 1, 1, false);
        x.looker(CAREFUL);
        // 12345 / 65536 is 0, a draw of 0
        check.due("says by the first seed", x.says(0, 0), 1);
        check.due("seed(5)", x.seed(5), 12345);
    }

    private static void theSeedWrapsAround() {
        check.sentence("each DRAW it becomes it times 1103515245 and 12345, left over by 2 to the 31");
        seedBecomes(0, 12345);
        seedBecomes(1, 1103527590);
        // 2 * 1103515245 + 12345 is 2207042835, 59559187 over 2 to the 31
        seedBecomes(2, 59559187);
        seedBecomes(2147483647, 1043980748);
        seedBecomes(2147483646, 2087949151);
        seedBecomes(1073741824, 1073754169);
    }

    private static void seedBecomes(int v, int due) {
        LooksByMany x = new LooksByMany();
        x.picture(1, 1, 1, false);
        x.looker(CAREFUL);
        x.seed(v);
        x.says(0, 0);
        check.due("the seed after " + v, x.seed(0), due);
    }

    private static void theDrawIsLeftOver() {
        check.sentence("the DRAW is what it is / 65536, left over by 100");
        // 1043980748 / 65536 is 15929: a draw of 29; 59559187 / 65536 is 908: a draw of 8
        drawOf(2147483647, 29);
        drawOf(2, 8);
        drawOf(0, 0);
    }

    private static void drawOf(int seed, int draw) {
        for (int eye = draw; eye <= draw + 1; eye++) {
            LooksByMany x = new LooksByMany();
            x.picture(1, 1, 1, false);
            x.looker(CAREFUL);
            Make.laws(x, "far " + eye + ";");
            x.seed(seed);
            check.due("says by an eye of " + eye + " and the seed " + seed, x.says(0, 0), eye > draw ? 1 : 0);
        }
    }

    private static void eyesOfNearOnes() {
        check.sentence("First EYE: sharp .. a DRAW below EYE: the KIND");
        steered.says(CAREFUL, 1, 0, 1, "", 1, 89);
        steered.says(CAREFUL, 1, 0, 1, "", 2, 90, 2);
        steered.says(CAREFUL, 2, 0, 1, "sharp 40;", 2, 39);
        steered.says(CAREFUL, 2, 0, 1, "sharp 40;", 1, 40, 1);
        steered.says(CAREFUL, 2, 0, 9, "sharp 100;", 2, 99);
        steered.says(CAREFUL, 2, 0, 0, "sharp 0;", 0, 0, 99);
        steered.says(CAREFUL, 0, 0, 0, "far 0;", 0, 89);
    }

    private static void eyesOfFarOnes() {
        check.sentence("of a FAR one far");
        steered.says(CAREFUL, 1, 1, 1, "", 1, 59);
        steered.says(CAREFUL, 1, 1, 1, "", 0, 60);
        steered.says(CAREFUL, 2, 1, 1, "far 10; sharp 0;", 2, 9);
        steered.says(CAREFUL, 2, 1, 1, "far 10; sharp 99;", 0, 10);
    }

    private static void eyesThatTire() {
        check.sentence("of a TIRED one less tire for each of its LOOKS");
        steered.saysAfter(0, TIRED, 1, 0, "", 1, 89);
        steered.saysAfter(0, TIRED, 1, 0, "", 2, 90, 2);
        steered.saysAfter(1, TIRED, 1, 0, "", 1, 84);
        steered.saysAfter(1, TIRED, 1, 0, "", 2, 85, 2);
        steered.saysAfter(2, TIRED, 1, 0, "", 1, 79);
        steered.saysAfter(2, TIRED, 1, 0, "", 2, 80, 2);
        steered.saysAfter(3, TIRED, 1, 1, "", 1, 44);
        steered.saysAfter(3, TIRED, 1, 1, "", 0, 45);
        steered.saysAfter(4, TIRED, 1, 0, "", 1, 69);
        steered.saysAfter(4, TIRED, 1, 0, "", 2, 70, 2);
        steered.saysAfter(4, TIRED, 1, 0, "tire 0;", 1, 89);
        steered.saysAfter(4, CAREFUL, 1, 0, "tire 99;", 1, 89);
    }

    private static void eyesBelowNought() {
        check.sentence("(0 at least)");
        // 90 less 89 is 1, less 90 is 0, less 99 or 23 times 99 would be below 0
        steered.saysAfter(1, TIRED, 1, 0, "tire 89;", 1, 0);
        steered.saysAfter(1, TIRED, 1, 0, "tire 90;", 2, 0, 2);
        steered.saysAfter(1, TIRED, 1, 0, "tire 99;", 2, 0, 2);
        steered.saysAfter(23, TIRED, 1, 0, "tire 99;", 2, 0, 2);
        steered.saysAfter(23, TIRED, 1, 1, "tire 99; far 0;", 0, 0);
    }

    private static void eyesOfMachines() {
        check.sentence("of a MACHINE 100, if the DEPTH is 4 or less, else 34");
        steered.says(MACHINE, 1, 0, 0, "sharp 0;", 1, 99);
        steered.says(MACHINE, 1, 0, 4, "sharp 0;", 1, 99);
        steered.says(MACHINE, 1, 1, 4, "far 0;", 1, 99);
        steered.says(MACHINE, 1, 0, 5, "sharp 100;", 1, 33);
        steered.says(MACHINE, 1, 0, 5, "sharp 100;", 2, 34, 2);
        steered.says(MACHINE, 1, 1, 5, "far 100;", 0, 34);
        steered.says(MACHINE, 1, 0, 9, "sharp 0;", 1, 33);
        steered.saysAfter(9, MACHINE, 1, 0, "tire 99;", 1, 99);
    }

    private static void randomOnes() {
        check.sentence("RANDOM: one DRAW, left over by 3, is the ANSWER.");
        steered.says(RANDOM, 1, 0, 1, "", 0, 0);
        steered.says(RANDOM, 0, 0, 9, "", 1, 1);
        steered.says(RANDOM, 0, 0, 0, "", 2, 2);
        steered.says(RANDOM, 1, 0, 1, "", 0, 3);
        steered.says(RANDOM, 1, 1, 1, "", 2, 98);
        steered.says(RANDOM, 2, 1, 1, "sharp 100; far 100;", 0, 99);
    }

    private static void farOnesNotSeen() {
        check.sentence("else, if it is FAR, SMOOTH");
        steered.says(CAREFUL, 2, 1, 1, "far 0;", 0, 98);
        steered.says(LEANING, 2, 1, 1, "far 0;", 0, 98);
        steered.says(ASKING, 2, 1, 7, "far 0;", 0, 98);
        steered.says(MACHINE, 2, 1, 9, "", 0, 98);
    }

    private static void secondDraws() {
        check.sentence("else a second DRAW, left over by 3");
        steered.says(CAREFUL, 1, 0, 1, "sharp 0;", 0, 50, 0);
        steered.says(CAREFUL, 0, 0, 1, "sharp 0;", 1, 50, 1);
        steered.says(CAREFUL, 0, 0, 1, "sharp 0;", 2, 50, 2);
        steered.says(CAREFUL, 1, 0, 1, "sharp 0;", 0, 50, 3);
        steered.says(CAREFUL, 1, 0, 1, "sharp 0;", 2, 50, 98);
        steered.says(CAREFUL, 1, 0, 1, "sharp 0;", 0, 50, 99);
    }

    private static void leansToTheLeft() {
        check.sentence("LEANING: if that came to RIGHT, one more DRAW: below lean: LEFT.");
        steered.says(LEANING, 2, 0, 1, "", 1, 10, 29);
        steered.says(LEANING, 2, 0, 1, "", 2, 10, 30);
        steered.says(LEANING, 2, 0, 1, "lean 0;", 2, 10, 0);
        steered.says(LEANING, 2, 0, 1, "lean 1;", 1, 10, 0);
        steered.says(LEANING, 2, 0, 1, "lean 99;", 2, 10, 99);
        steered.says(LEANING, 2, 0, 1, "lean 100;", 1, 10, 99);
        steered.says(LEANING, 2, 1, 1, "", 1, 10, 0);
        // what was guessed came to RIGHT, too
        steered.says(LEANING, 0, 0, 1, "", 1, 95, 2, 29);
        steered.says(LEANING, 0, 0, 1, "", 2, 95, 2, 30);
    }

    private static void leansOnlyOfRightOnes() {
        check.sentence("LEANING: if that came to RIGHT");
        steered.says(LEANING, 1, 0, 1, "lean 100;", 1, 10);
        steered.says(LEANING, 0, 0, 1, "lean 100;", 0, 10);
        steered.says(LEANING, 2, 0, 1, "lean 100;", 0, 95, 3);
        steered.says(LEANING, 2, 0, 1, "lean 100;", 1, 95, 1);
        steered.says(CAREFUL, 2, 0, 1, "lean 100;", 2, 10);
    }

    private static void askingOnes() {
        check.sentence("ASKING: if the DEPTH is 8 or 9: 3, without DRAWS.");
        steered.says(ASKING, 1, 0, 8, "", 3);
        steered.says(ASKING, 1, 1, 8, "", 3);
        steered.says(ASKING, 0, 0, 9, "sharp 100;", 3);
        steered.says(ASKING, 2, 0, 7, "", 2, 89);
        steered.says(ASKING, 2, 0, 7, "", 1, 90, 1);
        steered.says(ASKING, 2, 0, 0, "", 2, 89);
        steered.says(CAREFUL, 2, 0, 8, "", 2, 89);
        steered.says(CAREFUL, 2, 0, 9, "", 2, 89);
    }

    private static void seedIsRefused() {
        check.sentence("THE SEED becomes v (0 .. 2147483647): what it was. OUTSIDE.");
        edges.bounds("seed", Make::something, 0, 2147483647, OUTSIDE, LooksByMany::seed);
        LooksByMany x = new LooksByMany();
        check.due("the greatest seed", x.seed(2147483647), 0);
        check.due("the least seed", x.seed(0), 2147483647);
        check.due("what it was", x.seed(1), 0);
        check.due("one below 0", x.seed(-1), OUTSIDE);
        check.due("what it still was", x.seed(7), 1);
    }

    private static void lookIsRefused() {
        check.sentence("A LOOK told by hand: its number. UNKNOWN, OUTSIDE (the ANSWER), NOT: there is one; FULL.");
        edges.bounds("the looker of look", Make::something, 0, 2, UNKNOWN, (x, l) -> x.look(l, 4, 1));
        edges.bounds("the picture of look", Make::something, 0, 4, UNKNOWN, (x, p) -> x.look(2, p, 1));
        edges.refused("look(3, 4, 4)", Make::something, UNKNOWN, x -> x.look(3, 4, 4));
        edges.refused("look(0, 5, -1)", Make::something, UNKNOWN, x -> x.look(0, 5, -1));
        edges.refused("look(0, 0, 4), where there is one", Make::something, OUTSIDE, x -> x.look(0, 0, 4));
        edges.refused("look(0, 0, -1), where there is one", Make::something, OUTSIDE, x -> x.look(0, 0, -1));
        edges.refused("look(0, 0, 1), as it is", Make::something, NOT, x -> x.look(0, 0, 1));
        edges.refused("look(0, 0, 2), otherwise", Make::something, NOT, x -> x.look(0, 0, 2));
        edges.refused("look(1, 4, 0), where 3 was told", Make::something, NOT, x -> x.look(1, 4, 0));
        check.due("the next number", Make.something().look(2, 4, 0), 8);
        check.due("look without lookers", onePicture().look(0, 0, 0), UNKNOWN);
        check.due("look without pictures", oneLooker().look(0, 0, 0), UNKNOWN);
    }

    private static void saysIsRefused() {
        check.sentence("A LOOK made by DRAWS: the ANSWER. UNKNOWN, NOT, FULL likewise.");
        edges.bounds("the looker of says", Make::something, 0, 2, UNKNOWN, (x, l) -> x.says(l, 4));
        edges.bounds("the picture of says", Make::something, 0, 4, UNKNOWN, (x, p) -> x.says(2, p));
        edges.refused("says(0, 0), where there is one", Make::something, NOT, x -> x.says(0, 0));
        edges.refused("says(1, 4), where there is one", Make::something, NOT, x -> x.says(1, 4));
        check.due("says without lookers", onePicture().says(0, 0), UNKNOWN);
        check.due("says without pictures", oneLooker().says(0, 0), UNKNOWN);
        LooksByMany x = Make.something();
        check.due("the answer of an asking one", x.says(2, 4), 3);
        check.due("is that of the next look", x.about(8, 2), 3);
    }

    private static void firstSixCount() {
        check.sentence("THE LOOKS that count of a PICTURE are its first six.");
        LooksByMany x = new LooksByMany();
        Make.pictures(x, 2, 1, 0, 1);
        Make.lookers(x, 0, 0, 0, 0, 0, 0, 0, 0);
        // the first six by the order that they came in, not by the numbers of lookers
        for (int l = 7; l >= 0; l--) {
            x.look(l, 0, 1);
        }
        x.look(0, 1, 1);
        edges.answers("about(k, 3)", 0, k -> x.about(k, 3), 1, 1, 1, 1, 1, 1, 0, 0, 1);
        check.due("all eight are looks at it", x.told(0, 5), 8);
    }

    private static void aboutIsRefused() {
        check.sentence("Of a LOOK: what = 0 LOOKER, 1 PICTURE, 2 ANSWER, 3 whether it counts (1, 0). UNKNOWN, OUTSIDE.");
        edges.bounds("the look of about", Make::something, 0, 7, UNKNOWN, (x, k) -> x.about(k, 0));
        edges.bounds("what of about", Make::something, 0, 3, OUTSIDE, (x, what) -> x.about(0, what));
        edges.refused("about(8, 4)", Make::something, UNKNOWN, x -> x.about(8, 4));
        edges.refused("about(-1, -1)", Make::something, UNKNOWN, x -> x.about(-1, -1));
        LooksByMany x = Make.something();
        edges.answers("the first look, what", 0, what -> x.about(0, what), 0, 0, 1, 1);
        edges.answers("the last look, what", 0, what -> x.about(7, what), 1, 4, 3, 1);
    }

    private static void noLooksAndAllLooks() {
        check.sentence("LOOKS (200 at most)");
        // 24 pictures times 8 lookers are 192: the 200 and what is full of them can not be come to
        check.due("about(0, 0) without looks", new LooksByMany().about(0, 0), UNKNOWN);
        LooksByMany x = Make.fullOfLooks(1);
        check.due("count(2)", x.count(2), 192);
        edges.answers("the last look, what", 0, what -> x.about(191, what), 7, 23, 1, 0);
        check.due("about(192, 0)", x.about(192, 0), UNKNOWN);
        check.due("look again", x.look(7, 23, 1), NOT);
        check.due("says again", x.says(7, 23), NOT);
        check.due("says again at the first", x.says(0, 0), NOT);
        check.due("one more picture", x.look(0, 24, 1), UNKNOWN);
        check.due("one more looker", x.says(8, 0), UNKNOWN);
    }

    private static LooksByMany onePicture() {
        LooksByMany x = new LooksByMany();
        x.picture(1, 0, 1, false);
        return x;
    }

    private static LooksByMany oneLooker() {
        LooksByMany x = new LooksByMany();
        x.looker(CAREFUL);
        return x;
    }
}
