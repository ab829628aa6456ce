/** Looks made by draws that are steered: the seed is set so that just the draws asked for come. */
final class Steered {
    private static final int CAREFUL = 0;

    private final Check check;

    Steered(Check check) {
        this.check = check;
    }

    /** One looker of a sort at one picture: the answer, and that just these were drawn. */
    void says(int sort, int kind, int far, int depth, String laws, int want, int... draws) {
        LooksByMany x = new LooksByMany();
        x.picture(kind, far, depth, false);
        x.looker(sort);
        Make.laws(x, laws);
        said(x, 0, "sort " + sort + " at " + kind + far + depth + " by '" + laws + "'", want, draws);
    }

    /** One looker of a sort that has looked some times before, by hand, with any answers, at like pictures. */
    void saysAfter(int before, int sort, int kind, int far, String laws, int want, int... draws) {
        LooksByMany x = new LooksByMany();
        Make.pictures(x, before + 1, kind, far, 1);
        Make.lookers(x, sort, CAREFUL);
        for (int p = 0; p < before; p++) {
            x.look(0, p, p % 4);
        }
        // the looks of others do not tire it
        x.look(1, before, 0);
        Make.laws(x, laws);
        said(x, before, "sort " + sort + " after " + before + " looks by '" + laws + "'", want, draws);
    }

    private void said(LooksByMany x, int p, String who, int want, int... draws) {
        int seed = Make.seedGiving(draws);
        x.seed(seed);
        check.due("says of " + who, x.says(0, p), want);
        check.due("draws of " + who, x.seed(0), Make.seedAfter(seed, draws.length));
    }
}
