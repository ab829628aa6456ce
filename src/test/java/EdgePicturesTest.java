/** Boundary cases of promises 2, 3, 4, 10 and of the first paragraphs of 'Terms': each sentence has a test of its own. */
public final class EdgePicturesTest {
    private static final int NONE = -1, UNKNOWN = -1001, OUTSIDE = -1002, NOT = -1003, FULL = -1004;
    private static final Check check = new Check();
    private static final Edges edges = new Edges(check);

    public static void main(String[] args) {
        kinds();
        answers();
        nearOrFar();
        depths();
        knownOrNot();
        twentyFourPictures();
        twentyFourWithMirrors();
        mirrorsAreOneMore();
        mirrorsTurn();
        mirrorsAreAsTheirPictures();
        sorts();
        eightLookers();
        oneLookAtMost();
        pictureIsRefused();
        mirrorIsRefused();
        lookerIsRefused();
        whatIsTold();
        toldIsRefused();
        check.end();
    }

    private static void kinds() {
        check.sentence("KINDS are 0 SMOOTH, 1 LEFT, 2 RIGHT");
        edges.bounds("the kind of picture", Make::something, 0, 2, OUTSIDE, (x, kind) -> x.picture(kind, 0, 1, false));
        LooksByMany x = new LooksByMany();
        for (int kind = 0; kind <= 2; kind++) {
            x.picture(kind, 0, 1, false);
            check.due("told(" + kind + ", 0)", x.told(kind, 0), kind);
        }
    }

    private static void answers() {
        check.sentence("ANSWERS these, and 3: none of these");
        edges.bounds("the answer of look", Make::something, 0, 3, OUTSIDE, (x, answer) -> x.look(0, 4, answer));
        LooksByMany x = new LooksByMany();
        Make.pictures(x, 4, 1, 0, 1);
        x.looker(0);
        for (int answer = 0; answer <= 3; answer++) {
            x.look(0, answer, answer);
            check.due("about(" + answer + ", 2)", x.about(answer, 2), answer);
            check.due("told(" + answer + ", 6)", x.told(answer, 6), answer == 3 ? 1 : 0);
        }
    }

    private static void nearOrFar() {
        check.sentence("NEAR (0) or FAR (1)");
        edges.bounds("the far of picture", Make::something, 0, 1, OUTSIDE, (x, far) -> x.picture(1, far, 1, false));
        LooksByMany x = new LooksByMany();
        x.picture(1, 0, 1, false);
        x.picture(1, 1, 1, false);
        edges.answers("told(p, 1)", 0, p -> x.told(p, 1), 0, 1);
    }

    private static void depths() {
        check.sentence("of a DEPTH (0 .. 9)");
        edges.bounds("the depth of picture", Make::something, 0, 9, OUTSIDE, (x, depth) -> x.picture(1, 0, depth, false));
        LooksByMany x = new LooksByMany();
        x.picture(1, 0, 0, false);
        x.picture(1, 0, 9, false);
        edges.answers("told(p, 2)", 0, p -> x.told(p, 2), 0, 9);
    }

    private static void knownOrNot() {
        check.sentence("KNOWN (to whom reckons), or not");
        LooksByMany x = new LooksByMany();
        x.picture(1, 0, 0, true);
        x.picture(1, 0, 0, false);
        edges.answers("told(p, 3)", 0, p -> x.told(p, 3), 1, 0);
    }

    private static void twentyFourPictures() {
        check.sentence("PICTURES (24 at most)");
        LooksByMany x = new LooksByMany();
        for (int p = 0; p < 24; p++) {
            check.due("picture " + p, x.picture(p % 3, p % 2, p % 10, p % 4 == 0), p);
        }
        check.due("the 25th picture", x.picture(1, 0, 1, false), FULL);
        check.due("the 25th picture once more", x.picture(0, 1, 9, true), FULL);
        check.due("count(0)", x.count(0), 24);
        edges.answers("told of the last, what", 0, what -> x.told(23, what), 2, 1, 3, 0, NONE, 0, 0, 0);
        check.due("told(24, 0)", x.told(24, 0), UNKNOWN);
    }

    private static void twentyFourWithMirrors() {
        check.sentence("PICTURES (24 at most)");
        LooksByMany x = new LooksByMany();
        x.picture(1, 0, 1, false);
        for (int p = 1; p < 24; p++) {
            check.due("mirror " + p, x.mirror(0), p);
        }
        check.due("a mirror as the 25th", x.mirror(0), FULL);
        check.due("a picture as the 25th", x.picture(1, 0, 1, false), FULL);
        check.due("count(0)", x.count(0), 24);
        check.due("count(4)", x.count(4), 23);
    }

    private static void mirrorsAreOneMore() {
        check.sentence("A MIRROR of a PICTURE is one more");
        LooksByMany x = new LooksByMany();
        x.picture(1, 0, 1, false);
        check.due("mirror(0)", x.mirror(0), 1);
        check.due("a second one of the same", x.mirror(0), 2);
        check.due("the picture behind these", x.picture(1, 0, 1, false), 3);
        check.due("its mirror", x.mirror(3), 4);
        edges.answers("told(p, 4)", 0, p -> x.told(p, 4), NONE, 0, 0, NONE, 3);
    }

    private static void mirrorsTurn() {
        check.sentence("RIGHT becomes LEFT, LEFT RIGHT, SMOOTH stays");
        LooksByMany x = new LooksByMany();
        for (int kind = 0; kind <= 2; kind++) {
            x.picture(kind, 0, 1, false);
        }
        for (int p = 0; p <= 2; p++) {
            x.mirror(p);
        }
        edges.answers("told(p, 0)", 0, p -> x.told(p, 0), 0, 1, 2, 0, 2, 1);
    }

    private static void mirrorsAreAsTheirPictures() {
        check.sentence("NEAR or FAR, DEPTH as of it; not KNOWN");
        LooksByMany x = new LooksByMany();
        x.picture(1, 0, 9, true);
        x.picture(1, 1, 0, true);
        x.mirror(0);
        x.mirror(1);
        edges.answers("told(p, 1)", 0, p -> x.told(p, 1), 0, 1, 0, 1);
        edges.answers("told(p, 2)", 0, p -> x.told(p, 2), 9, 0, 9, 0);
        edges.answers("told(p, 3)", 0, p -> x.told(p, 3), 1, 1, 0, 0);
        check.due("count(3)", x.count(3), 2);
    }

    private static void sorts() {
        check.sentence("LOOKERS (8 at most) are of a SORT: 0 CAREFUL, 1 LEANING, 2 TIRED, 3 RANDOM, 4 MACHINE, 5 ASKING");
        edges.bounds("the sort of looker", Make::something, 0, 5, OUTSIDE, LooksByMany::looker);
    }

    private static void eightLookers() {
        check.sentence("LOOKERS (8 at most)");
        LooksByMany x = new LooksByMany();
        for (int l = 0; l < 8; l++) {
            check.due("looker " + l, x.looker(l % 6), l);
        }
        check.due("the ninth looker", x.looker(0), FULL);
        check.due("the ninth looker once more", x.looker(5), FULL);
        check.due("count(1)", x.count(1), 8);
        check.due("stays(7)", x.stays(7), 1);
        check.due("stays(8)", x.stays(8), UNKNOWN);
    }

    private static void oneLookAtMost() {
        check.sentence("of one LOOKER at one PICTURE there is one at most");
        LooksByMany x = new LooksByMany();
        x.picture(1, 0, 1, false);
        x.mirror(0);
        Make.lookers(x, 0, 0, 0);
        check.due("look(0, 0, 0)", x.look(0, 0, 0), 0);
        check.due("look again, with that answer", x.look(0, 0, 0), NOT);
        check.due("look again, with another", x.look(0, 0, 3), NOT);
        check.due("says where there is a look by hand", x.says(0, 0), NOT);
        check.due("another looker", x.look(1, 0, 1), 1);
        check.due("the mirror is another picture", x.look(0, 1, 1), 2);
        x.says(2, 0);
        check.due("says again", x.says(2, 0), NOT);
        check.due("look where there is one by draws", x.look(2, 0, 1), NOT);
        check.due("an evening makes what is left", x.evening(7, 20, 0), 2);
        check.due("look where an evening made one", x.look(1, 1, 1), NOT);
        check.due("count(2)", x.count(2), 6);
        check.due("the first answer is as it was", x.about(0, 2), 0);
    }

    private static void pictureIsRefused() {
        check.sentence("A PICTURE: its number. OUTSIDE (KIND, FAR 0, 1, DEPTH), FULL.");
        edges.refused("a 25th picture", Make::fullOfPictures, FULL, x -> x.picture(1, 0, 1, false));
        edges.refused("a 25th of kind 3", Make::fullOfPictures, OUTSIDE, x -> x.picture(3, 0, 1, false));
        edges.refused("a 25th of kind -1", Make::fullOfPictures, OUTSIDE, x -> x.picture(-1, 0, 1, true));
        edges.refused("a 25th of far 2", Make::fullOfPictures, OUTSIDE, x -> x.picture(1, 2, 1, false));
        edges.refused("a 25th of depth 10", Make::fullOfPictures, OUTSIDE, x -> x.picture(1, 0, 10, false));
        check.due("the next number", Make.something().picture(1, 0, 1, false), 5);
    }

    private static void mirrorIsRefused() {
        check.sentence("A MIRROR of a PICTURE: its number. UNKNOWN, NOT: it is a MIRROR; FULL.");
        edges.bounds("mirror", Make::something, 0, 4, UNKNOWN, LooksByMany::mirror);
        edges.refused("mirror of a mirror", Make::something, NOT, x -> x.mirror(2));
        edges.refused("a mirror as the 25th", Make::fullOfPictures, FULL, x -> x.mirror(0));
        edges.refused("of a mirror, when full", Make::fullOfPictures, NOT, x -> x.mirror(2));
        edges.refused("of none, when full", Make::fullOfPictures, UNKNOWN, x -> x.mirror(24));
        edges.refused("of -1, when full", Make::fullOfPictures, UNKNOWN, x -> x.mirror(-1));
        check.due("mirror without pictures", new LooksByMany().mirror(0), UNKNOWN);
    }

    private static void lookerIsRefused() {
        check.sentence("A LOOKER: its number. OUTSIDE, FULL.");
        edges.refused("a ninth looker", Make::fullOfLookers, FULL, x -> x.looker(0));
        edges.refused("a ninth of sort 6", Make::fullOfLookers, OUTSIDE, x -> x.looker(6));
        edges.refused("a ninth of sort -1", Make::fullOfLookers, OUTSIDE, x -> x.looker(-1));
        check.due("the next number", Make.something().looker(5), 3);
    }

    private static void whatIsTold() {
        check.sentence("what = 0 KIND, 1 FAR, 2 DEPTH, 3 KNOWN (1, 0), 4 of which it is a MIRROR (NONE), "
                + "5 LOOKS, 6 ANSWERS 3, 7 whether it is DONE");
        LooksByMany x = new LooksByMany();
        x.picture(2, 1, 9, true);
        edges.answers("told of one that nobody looked at, what", 0, what -> x.told(0, what), 2, 1, 9, 1, NONE, 0, 0, 0);
        LooksByMany y = Make.fullOfLooks(3);
        edges.answers("told of one that all looked at, what", 0, what -> y.told(23, what), 1, 0, 1, 0, NONE, 8, 8, 1);
    }

    private static void toldIsRefused() {
        check.sentence("Of a PICTURE: .. UNKNOWN, OUTSIDE.");
        edges.bounds("the picture of told", Make::something, 0, 4, UNKNOWN, (x, p) -> x.told(p, 0));
        edges.bounds("what of told", Make::something, 0, 7, OUTSIDE, (x, what) -> x.told(0, what));
        edges.refused("told(5, 8)", Make::something, UNKNOWN, x -> x.told(5, 8));
        edges.refused("told(-1, -1)", Make::something, UNKNOWN, x -> x.told(-1, -1));
        check.due("told without pictures", new LooksByMany().told(0, 0), UNKNOWN);
        check.due("the last of 24", Make.fullOfPictures().told(23, 0), 1);
        check.due("one beyond 24", Make.fullOfPictures().told(24, 0), UNKNOWN);
    }
}
