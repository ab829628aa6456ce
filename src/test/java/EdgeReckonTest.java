/** Boundary cases of promises 18 to 22 and of ODDS, TABLES, SKY, ROUNDS in 'Terms': each sentence has a test of its own. */
public final class EdgeReckonTest {
    private static final int UNKNOWN = -1001, OUTSIDE = -1002;
    private static final Check check = new Check();
    private static final Edges edges = new Edges(check);

    public static void main(String[] args) {
        tablesAtFirst();
        skyAtFirst();
        theSixthLookCounts();
        theSeventhLookDoesNot();
        oddsAreCut();
        theFirstOfTheGreatest();
        manyGreatOnes();
        knownOnes();
        tablesOfOneToNinetySeven();
        tablesWithoutOdds();
        tablesWithTheLeastOdds();
        lookersWithoutLooksThatCount();
        whatIsLeftOfTheSky();
        theSkyWithoutPictures();
        theSkyIsOneAtLeast();
        nothingChanges();
        oddsAloneChange();
        tablesAloneChange();
        fortyAtMost();
        fromTheBeginning();
        howManyRounds();
        oddsOfOneToldSince();
        oddsOfNoneAtAll();
        oddsIsRefused();
        tablesOfOneToldSince();
        tableIsRefused();
        skyIsRefused();
        sharesArePutRight();
        sharesOfNoneAndOfAll();
        farIsRefused();
        check.end();
    }

    private static LooksByMany pictures(int lookers, int... kinds) {
        LooksByMany x = new LooksByMany();
        for (int kind : kinds) {
            x.picture(kind, 0, 0, false);
        }
        for (int l = 0; l < lookers; l++) {
            x.looker(0);
        }
        return x;
    }

    private static LooksByMany known(int... kinds) {
        LooksByMany x = new LooksByMany();
        for (int kind : kinds) {
            x.picture(kind, 0, 0, true);
        }
        x.looker(0);
        return x;
    }

    /** Looks of the lookers 0, 1, 2 .. at the first picture. */
    private static void looksAtOne(LooksByMany x, int... answers) {
        for (int l = 0; l < answers.length; l++) {
            x.look(l, 0, answers[l]);
        }
    }

    private static void odds(LooksByMany x, int p, int... due) {
        edges.answers("odds of " + p + ", kind", 0, kind -> x.odds(p, kind), due);
    }

    private static void sky(LooksByMany x, int... due) {
        edges.answers("sky", 0, x::sky, due);
    }

    private static void table(LooksByMany x, int l, int kind, int... due) {
        edges.answers("table of " + l + " for " + kind + ", answer", 0, answer -> x.table(l, kind, answer), due);
    }

    private static void tableAsAtFirst(LooksByMany x, int l) {
        table(x, l, 0, 70, 10, 10, 10);
        table(x, l, 1, 10, 70, 10, 10);
        table(x, l, 2, 10, 10, 70, 10);
    }

    private static void tablesAtFirst() {
        check.sentence("TABLES .. at first: 70 for the KIND, 10 for each other ANSWER");
        LooksByMany x = new LooksByMany();
        for (int l = 0; l < 8; l++) {
            x.looker(l % 6);
            tableAsAtFirst(x, l);
        }
        x.reckon();
        tableAsAtFirst(x, 0);
        tableAsAtFirst(x, 7);
    }

    private static void skyAtFirst() {
        check.sentence("SKY: three numbers of a thousand, at first 334, 333, 333");
        sky(new LooksByMany(), 334, 333, 333);
        sky(known(1, 1, 1), 334, 333, 333);
    }

    // the fifth leaves 233800, 233100, 33300 of 500200; the sixth makes all three like, but for the sky
    private static void theSixthLookCounts() {
        check.sentence("THE LOOKS that count of a PICTURE are its first six.");
        LooksByMany x = pictures(8, 1);
        looksAtOne(x, 1, 1, 0, 0, 2);
        x.reckon();
        odds(x, 0, 468, 466, 66);
        x.look(5, 0, 2);
        x.reckon();
        odds(x, 0, 334, 333, 333);
        table(x, 5, 0, 1, 1, 97, 1);
    }

    private static void theSeventhLookDoesNot() {
        check.sentence("THE LOOKS that count of a PICTURE are its first six.");
        LooksByMany x = pictures(8, 1);
        for (int l = 7; l >= 0; l--) {
            x.look(l, 0, l >= 6 ? 1 : l >= 4 ? 0 : 2);
        }
        x.reckon();
        odds(x, 0, 334, 333, 333);
        table(x, 2, 0, 1, 1, 97, 1);
        tableAsAtFirst(x, 1);
        tableAsAtFirst(x, 0);
    }

    private static void oddsAreCut() {
        check.sentence("each times 1000 / all together (cut); what is left of 1000 goes to the greatest");
        // 3340, 23310, 3330 of 29980: 111, 777, 111, and 1 that is left
        LooksByMany x = pictures(1, 1);
        looksAtOne(x, 1);
        x.reckon();
        odds(x, 0, 111, 778, 111);
        // 3340, 3330, 23310 of 29980
        LooksByMany y = pictures(1, 1);
        looksAtOne(y, 2);
        y.reckon();
        odds(y, 0, 111, 111, 778);
        // 233800, 33300, 33300 of 300400: 778, 110, 110, and 2 that are left
        LooksByMany z = pictures(2, 1);
        looksAtOne(z, 3, 0);
        z.reckon();
        odds(z, 0, 780, 110, 110);
    }

    private static void theFirstOfTheGreatest() {
        check.sentence("goes to the greatest (the first of these)");
        // 33400, 233100, 233100 of 499600: 66, 466, 466, and 2 that are left
        LooksByMany x = pictures(2, 1);
        looksAtOne(x, 1, 2);
        check.due("reckon()", x.reckon(), 2);
        odds(x, 0, 66, 468, 466);
        // SMOOTH and LEFT, SMOOTH and RIGHT, all three: worked out by a second program from the document's words
        LooksByMany left = pictures(1, 2, 1, 2);
        Make.looks(left, 0, 3, 1, 3);
        check.due("reckon()", left.reckon(), 9);
        odds(left, 0, 338, 337, 325);
        LooksByMany right = pictures(1, 1, 2, 1);
        Make.looks(right, 0, 3, 3, 2);
        check.due("reckon()", right.reckon(), 9);
        odds(right, 0, 338, 325, 337);
        LooksByMany all = pictures(3, 2, 1, 1);
        Make.looks(all, 0, -1, -1, 1);
        Make.looks(all, 1, 1, -1, 0);
        Make.looks(all, 2, 2, 3, 2);
        check.due("reckon()", all.reckon(), 8);
        odds(all, 2, 334, 333, 333);
        odds(all, 1, 327, 341, 332);
    }

    // 1000 times 97, six times, times 1000 is 832972004929000000: it needs 60 bits
    private static void manyGreatOnes() {
        check.sentence("for each KIND SKY times the TABLES of all LOOKS that count");
        LooksByMany x = new LooksByMany();
        x.picture(2, 0, 0, false);
        for (int p = 1; p <= 4; p++) {
            x.picture(2, 0, 0, true);
        }
        Make.lookers(x, 0, 0, 0, 0, 0, 0);
        for (int l = 0; l < 6; l++) {
            Make.looks(x, l, 2, 2);
        }
        check.due("reckon()", x.reckon(), 2);
        odds(x, 0, 0, 0, 1000);
        table(x, 5, 2, 1, 1, 97, 1);
        sky(x, 1, 1, 1000);
    }

    private static void knownOnes() {
        check.sentence("Of a KNOWN one: 1000 for its KIND.");
        for (int kind = 0; kind <= 2; kind++) {
            LooksByMany x = known(kind);
            int other = (kind + 1) % 3;
            x.looker(0);
            looksAtOne(x, other, other);
            x.reckon();
            odds(x, 0, kind == 0 ? 1000 : 0, kind == 1 ? 1000 : 0, kind == 2 ? 1000 : 0);
        }
    }

    private static void tablesOfOneToNinetySeven() {
        check.sentence("a number 1 .. 97 .. 1 and 96 times A / W (cut), of the four");
        LooksByMany x = known(1, 1, 1);
        Make.looks(x, 0, 2, 2, 2);
        x.reckon();
        table(x, 0, 1, 1, 1, 97, 1);
        // 96 * 1000 / 3000 and 96 * 2000 / 3000
        LooksByMany y = known(1, 1, 1);
        Make.looks(y, 0, 2, 1, 2);
        y.reckon();
        table(y, 0, 1, 1, 33, 65, 1);
        // 96 * 1 / 7 is 13, 96 * 6 / 7 is 82
        LooksByMany z = known(0, 0, 0, 0, 0, 0, 0);
        Make.looks(z, 0, 3, 0, 0, 0, 0, 0, 0);
        z.reckon();
        table(z, 0, 0, 83, 1, 1, 14);
    }

    private static void tablesWithoutOdds() {
        check.sentence("W 0: as it was");
        LooksByMany x = known(1);
        x.look(0, 0, 3);
        x.reckon();
        table(x, 0, 0, 70, 10, 10, 10);
        table(x, 0, 1, 1, 1, 1, 97);
        table(x, 0, 2, 10, 10, 70, 10);
        // here SMOOTH and RIGHT have odds at first and none in the end: as it was by the round before, not at first
        LooksByMany y = new LooksByMany();
        y.picture(1, 0, 0, false);
        y.picture(1, 0, 0, true);
        y.looker(0);
        y.look(0, 0, 2);
        check.due("reckon()", y.reckon(), 12);
        odds(y, 0, 0, 1000, 0);
        table(y, 0, 0, 1, 1, 97, 1);
        table(y, 0, 2, 1, 1, 97, 1);
    }

    // by the 16th round RIGHT has odds of 1 at the second picture and of 0 at the first: of the two answers one is all
    private static void tablesWithTheLeastOdds() {
        check.sentence("W 0: as it was");
        LooksByMany x = new LooksByMany();
        x.picture(1, 0, 0, false);
        x.picture(0, 0, 0, false);
        x.picture(0, 0, 0, true);
        x.looker(0);
        Make.looks(x, 0, 1, 3);
        check.due("reckon()", x.reckon(), 16);
        check.due("odds(0, 2)", x.odds(0, 2), 0);
        check.due("odds(1, 2)", x.odds(1, 2), 1);
        table(x, 0, 2, 1, 1, 1, 97);
    }

    private static void lookersWithoutLooksThatCount() {
        check.sentence("then TABLES of each LOOKER with a LOOK that counts");
        LooksByMany x = pictures(8, 1, 1);
        for (int l = 0; l < 8; l++) {
            x.look(l, 0, 1);
        }
        x.reckon();
        table(x, 5, 1, 1, 97, 1, 1);
        tableAsAtFirst(x, 6);
        tableAsAtFirst(x, 7);
        x.look(7, 1, 2);
        x.reckon();
        tableAsAtFirst(x, 6);
        table(x, 7, 1, 1, 1, 97, 1);
    }

    private static void whatIsLeftOfTheSky() {
        check.sentence("what is left of 1000 to KIND 0");
        LooksByMany x = known(0, 1, 2);
        x.reckon();
        sky(x, 334, 333, 333);
        LooksByMany y = known(2, 0, 2);
        y.reckon();
        sky(y, 334, 1, 666);
        // no SMOOTH one at all: 142 and 857 leave 1
        LooksByMany z = known(1, 2, 2, 2, 2, 2, 2);
        z.reckon();
        sky(z, 1, 142, 857);
    }

    private static void theSkyWithoutPictures() {
        check.sentence("(without PICTURES: as it was)");
        LooksByMany x = new LooksByMany();
        check.due("reckon()", x.reckon(), 1);
        sky(x, 334, 333, 333);
        x.looker(0);
        check.due("reckon() with a looker", x.reckon(), 1);
        sky(x, 334, 333, 333);
    }

    private static void theSkyIsOneAtLeast() {
        check.sentence("each 1 at least: what is less is made 1 (0 is not left)");
        for (int kind = 0; kind <= 2; kind++) {
            LooksByMany x = known(kind, kind);
            x.reckon();
            sky(x, kind == 0 ? 1000 : 1, kind == 1 ? 1000 : 1, kind == 2 ? 1000 : 1);
        }
        LooksByMany y = known(1, 2);
        y.reckon();
        sky(y, 1, 500, 500);
    }

    private static void nothingChanges() {
        check.sentence("until one changes no ODDS, TABLES, SKY");
        check.due("nothing at all", new LooksByMany().reckon(), 1);
        check.due("a picture", pictures(0, 1).reckon(), 1);
        check.due("24 pictures and 8 lookers without looks", pictures(8, new int[24]).reckon(), 1);
    }

    private static void oddsAloneChange() {
        check.sentence("until one changes no ODDS");
        // of each kind a known one: the sky stays 334, 333, 333, and without looks tables do, too
        LooksByMany x = known(0, 1, 2);
        check.due("reckon()", x.reckon(), 2);
        sky(x, 334, 333, 333);
        tableAsAtFirst(x, 0);
        odds(x, 2, 0, 0, 1000);
    }

    private static void tablesAloneChange() {
        check.sentence("until one changes no .. TABLES");
        // an answer 3 leaves odds and sky as at first
        LooksByMany x = pictures(1, 1);
        looksAtOne(x, 3);
        check.due("reckon()", x.reckon(), 2);
        odds(x, 0, 334, 333, 333);
        sky(x, 334, 333, 333);
        table(x, 0, 1, 1, 1, 1, 97);
    }

    private static void fortyAtMost() {
        check.sentence("(40 at most)");
        LooksByMany x = Make.settledByForty();
        check.due("the 40th changes nothing", x.reckon(), 40);
        odds(x, 0, 196, 155, 649);
        odds(x, 2, 1, 996, 3);
        sky(x, 66, 717, 217);
        table(x, 0, 1, 90, 1, 7, 1);
        LooksByMany y = Make.settledByFortyOne();
        check.due("the 41st would change nothing", y.reckon(), -41);
        odds(y, 0, 1, 3, 996);
        odds(y, 2, 196, 649, 155);
        sky(y, 66, 217, 717);
        table(y, 0, 2, 1, 7, 1, 90);
    }

    private static void fromTheBeginning() {
        check.sentence("RECKONED are ROUNDS, from the beginning (ODDS 334, 333, 333 of all)");
        LooksByMany x = Make.settledByForty();
        x.reckon();
        check.due("once more", x.reckon(), 40);
        odds(x, 0, 196, 155, 649);
        LooksByMany y = Make.settledByFortyOne();
        y.reckon();
        check.due("one that was not settled does not go on", y.reckon(), -41);
        LooksByMany z = pictures(1, 1);
        looksAtOne(z, 1);
        z.reckon();
        // a second picture: tables and sky begin anew, too, else its odds would not be 334 ..
        z.picture(2, 0, 0, false);
        LooksByMany fresh = pictures(1, 1, 2);
        looksAtOne(fresh, 1);
        check.due("reckon() after one more picture", z.reckon(), fresh.reckon());
        odds(z, 0, fresh.odds(0, 0), fresh.odds(0, 1), fresh.odds(0, 2));
        odds(z, 1, fresh.odds(1, 0), fresh.odds(1, 1), fresh.odds(1, 2));
    }

    private static void howManyRounds() {
        check.sentence("how many ROUNDS (the last one, that changes nothing, too); -41: not by 40.");
        check.due("the last one alone", pictures(1, 1).reckon(), 1);
        check.due("one, and the last one", known(1).reckon(), 2);
        check.due("39, and the last one", Make.settledByForty().reckon(), 40);
        check.due("40 that all change", Make.settledByFortyOne().reckon(), -41);
    }

    private static void oddsOfOneToldSince() {
        check.sentence("as RECKONED last (334, 333, 333 of one that was told since");
        LooksByMany x = known(1);
        odds(x, 0, 334, 333, 333);
        x.reckon();
        odds(x, 0, 0, 1000, 0);
        x.picture(2, 0, 0, true);
        x.mirror(0);
        x.look(0, 1, 0);
        odds(x, 0, 0, 1000, 0);
        odds(x, 1, 334, 333, 333);
        odds(x, 2, 334, 333, 333);
        LooksByMany y = new LooksByMany();
        Make.pictures(y, 23, 1, 0, 1);
        y.reckon();
        y.picture(1, 0, 0, true);
        odds(y, 23, 334, 333, 333);
        y.reckon();
        odds(y, 23, 0, 1000, 0);
    }

    private static void oddsOfNoneAtAll() {
        check.sentence("of none at all)");
        LooksByMany x = known(0);
        odds(x, 0, 334, 333, 333);
        LooksByMany y = new LooksByMany();
        y.reckon();
        y.picture(0, 0, 0, true);
        odds(y, 0, 334, 333, 333);
    }

    private static void oddsIsRefused() {
        check.sentence("ODDS of a KIND of a PICTURE .. UNKNOWN, OUTSIDE.");
        edges.bounds("the picture of odds", Make::something, 0, 4, UNKNOWN, (x, p) -> x.odds(p, 0));
        edges.bounds("the kind of odds", Make::something, 0, 2, OUTSIDE, (x, kind) -> x.odds(0, kind));
        edges.refused("odds(5, 3)", Make::something, UNKNOWN, x -> x.odds(5, 3));
        edges.refused("odds(-1, -1)", Make::something, UNKNOWN, x -> x.odds(-1, -1));
        check.due("odds without pictures", new LooksByMany().odds(0, 0), UNKNOWN);
        check.due("the last of 24", Make.fullOfPictures().odds(23, 2), 333);
        check.due("one beyond 24", Make.fullOfPictures().odds(24, 2), UNKNOWN);
    }

    private static void tablesOfOneToldSince() {
        check.sentence("TABLES of a LOOKER, as RECKONED last.");
        LooksByMany x = known(1, 1);
        x.look(0, 0, 1);
        tableAsAtFirst(x, 0);
        x.reckon();
        table(x, 0, 1, 1, 97, 1, 1);
        x.look(0, 1, 2);
        x.looker(0);
        x.look(1, 0, 2);
        table(x, 0, 1, 1, 97, 1, 1);
        tableAsAtFirst(x, 1);
        x.reckon();
        table(x, 0, 1, 1, 49, 49, 1);
        table(x, 1, 1, 1, 1, 97, 1);
    }

    private static void tableIsRefused() {
        check.sentence("UNKNOWN, OUTSIDE (KIND 0 .. 2, ANSWER 0 .. 3).");
        edges.bounds("the looker of table", Make::something, 0, 2, UNKNOWN, (x, l) -> x.table(l, 0, 0));
        edges.bounds("the kind of table", Make::something, 0, 2, OUTSIDE, (x, kind) -> x.table(0, kind, 0));
        edges.bounds("the answer of table", Make::something, 0, 3, OUTSIDE, (x, answer) -> x.table(0, 0, answer));
        edges.refused("table(3, 3, 0)", Make::something, UNKNOWN, x -> x.table(3, 3, 0));
        edges.refused("table(-1, 0, 4)", Make::something, UNKNOWN, x -> x.table(-1, 0, 4));
        check.due("table without lookers", new LooksByMany().table(0, 0, 0), UNKNOWN);
        check.due("the last of eight", Make.fullOfLookers().table(7, 2, 3), 10);
        check.due("a ninth", Make.fullOfLookers().table(8, 0, 0), UNKNOWN);
    }

    private static void skyIsRefused() {
        check.sentence("SKY. OUTSIDE.");
        edges.bounds("sky", Make::something, 0, 2, OUTSIDE, LooksByMany::sky);
        LooksByMany x = known(1);
        x.reckon();
        sky(x, 1, 1000, 1);
        x.picture(0, 0, 0, true);
        sky(x, 1, 1000, 1);
    }

    private static void shares(LooksByMany x, int h, int... due) {
        edges.answers("far(" + h + ", kind)", 0, kind -> x.far(h, kind), due);
    }

    private static void sharesArePutRight() {
        check.sentence("P0 times h / 100 / 2 (each cut) more to LEFT, as much to RIGHT, twice that less of SMOOTH");
        LooksByMany x = new LooksByMany();
        x.picture(1, 1, 0, false);
        x.picture(1, 0, 0, true);
        // 334: by 1 it is 3, and 1 by half; by 99 it is 330, and 165; by 100 it is 334, and 167
        shares(x, 0, 334, 333, 333);
        shares(x, 1, 332, 334, 334);
        shares(x, 99, 4, 498, 498);
        shares(x, 100, 0, 500, 500);
        LooksByMany y = new LooksByMany();
        y.picture(1, 1, 0, false);
        y.looker(0);
        y.look(0, 0, 1);
        y.reckon();
        // 111: by 100 it is 55 by half, and 1 is left
        shares(y, 100, 1, 833, 166);
        shares(y, 1, 111, 778, 111);
        shares(y, 2, 109, 779, 112);
    }

    private static void sharesOfNoneAndOfAll() {
        check.sentence("FAR shares: P0, P1, P2 of FAR ones by ODDS (sums)");
        shares(new LooksByMany(), 0, 0, 0, 0);
        shares(new LooksByMany(), 100, 0, 0, 0);
        shares(Make.fullOfLooks(0), 100, 0, 0, 0);
        LooksByMany x = new LooksByMany();
        for (int p = 0; p < 24; p++) {
            x.picture(0, 1, 0, true);
        }
        shares(x, 100, 0, 12000, 12000);
        shares(x, 0, 8016, 7992, 7992);
        x.reckon();
        shares(x, 0, 24000, 0, 0);
        shares(x, 100, 0, 12000, 12000);
    }

    private static void farIsRefused() {
        check.sentence("FAR shares put right by h (0 .. 100): of a KIND. OUTSIDE.");
        edges.bounds("h of far", Make::something, 0, 100, OUTSIDE, (x, h) -> x.far(h, 0));
        edges.bounds("the kind of far", Make::something, 0, 2, OUTSIDE, (x, kind) -> x.far(50, kind));
    }
}
