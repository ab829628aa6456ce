/** Boundary cases of promises 15 to 17 and of DONE, SHOWN NEXT, AN EVENING, STAYS: each sentence has a test of its own. */
public final class EdgeEveningsTest {
    private static final int NONE = -1, UNKNOWN = -1001, OUTSIDE = -1002;
    private static final Check check = new Check();
    private static final Edges edges = new Edges(check);

    public static void main(String[] args) {
        doneByLine();
        doneAsReckonedLast();
        doneByMost();
        notDoneAndNotLookedAt();
        fewestLooks();
        leastNumber();
        leastGreatestOdds();
        greatestDepth();
        nextIsRefused();
        nothingToShow();
        turnsOfAnEvening();
        setsOfLookers();
        lookersByNumbers();
        eveningsByRules();
        theTurnGoesBy();
        whoGoesIsNotShown();
        eveningOfAllLooks();
        eveningIsRefused();
        eveningsOfNone();
        fewerLooksThanPatience();
        notAllLastOnesFar();
        staysIsRefused();
        check.end();
    }

    /** One picture with odds of 780, 110, 110, as EdgeReckonTest works them out, and a looker who has no look at it. */
    private static LooksByMany of780() {
        LooksByMany x = new LooksByMany();
        x.picture(0, 0, 1, false);
        Make.lookers(x, 0, 0, 0);
        x.look(0, 0, 3);
        x.look(1, 0, 0);
        x.reckon();
        check.due("odds(0, 0)", x.odds(0, 0), 780);
        return x;
    }

    private static void done(LooksByMany x, int p, boolean due) {
        check.due("told(" + p + ", 7)", x.told(p, 7), due ? 1 : 0);
    }

    private static void doneByLine() {
        check.sentence("DONE is a PICTURE with a greatest ODDS of line times 10 or more");
        LooksByMany x = of780();
        done(x, 0, false);
        Make.laws(x, "line 79;");
        done(x, 0, false);
        check.due("next(2, 0)", x.next(2, 0), 0);
        Make.laws(x, "line 78;");
        done(x, 0, true);
        check.due("next(2, 0)", x.next(2, 0), NONE);
        Make.laws(x, "line 77;");
        done(x, 0, true);
        // 334 is the least there can be of a greatest one: by the least line that is not enough
        LooksByMany y = new LooksByMany();
        y.picture(0, 0, 1, false);
        y.reckon();
        Make.laws(y, "line 34;");
        done(y, 0, false);
        Make.laws(y, "line 99;");
        y.picture(0, 0, 1, true);
        y.reckon();
        done(y, 1, true);
    }

    private static void doneAsReckonedLast() {
        check.sentence("(as RECKONED last)");
        LooksByMany x = new LooksByMany();
        x.picture(1, 0, 1, true);
        Make.laws(x, "line 34;");
        done(x, 0, false);
        x.reckon();
        done(x, 0, true);
        x.picture(1, 0, 1, true);
        done(x, 1, false);
        check.due("count(5)", x.count(5), 1);
        LooksByMany y = of780();
        Make.laws(y, "line 78;");
        y.look(2, 0, 1);
        done(y, 0, true);
        y.reckon();
        done(y, 0, false);
    }

    private static void doneByMost() {
        check.sentence("or with most LOOKS or more");
        LooksByMany x = new LooksByMany();
        x.picture(1, 0, 1, false);
        Make.lookers(x, 0, 0, 0, 0, 0, 0, 0, 0);
        for (int looks = 0; looks <= 8; looks++) {
            for (int most = 1; most <= 8; most++) {
                Make.laws(x, "most " + most + ";");
                done(x, 0, looks >= most);
            }
            if (looks < 8) {
                x.look(looks, 0, 1);
            }
        }
        LooksByMany y = Make.fullOfLooks(1);
        check.due("by most as at first, all of 8 looks", y.count(5), 24);
    }

    private static void notDoneAndNotLookedAt() {
        check.sentence("of PICTURES that are not DONE and at which it has no LOOK");
        LooksByMany x = new LooksByMany();
        Make.pictures(x, 3, 1, 0, 1);
        Make.lookers(x, 0, 0);
        Make.laws(x, "most 1;");
        x.look(0, 0, 1);
        check.due("0 is done: next(1, 0)", x.next(1, 0), 1);
        Make.laws(x, "most 2;");
        x.look(0, 2, 1);
        check.due("looked at 0 and 2: next(0, 0)", x.next(0, 0), 1);
        x.look(0, 1, 1);
        check.due("looked at all: next(0, 0)", x.next(0, 0), NONE);
        check.due("at none: next(1, 0)", x.next(1, 0), 0);
        Make.laws(x, "most 1;");
        check.due("all are done: next(1, 0)", x.next(1, 0), NONE);
    }

    private static void fewestLooks() {
        check.sentence("that with the fewest LOOKS");
        for (int rule = 0; rule <= 2; rule++) {
            LooksByMany x = new LooksByMany();
            x.picture(1, 0, 9, false);
            x.picture(1, 0, 5, false);
            x.picture(1, 0, 0, false);
            Make.lookers(x, 0, 0, 0);
            x.look(0, 0, 1);
            x.look(1, 0, 1);
            x.look(0, 1, 1);
            check.due("none, one or two looks, by rule " + rule, x.next(2, rule), 2);
            x.look(0, 2, 1);
            x.look(1, 2, 1);
            check.due("one or two looks, by rule " + rule, x.next(2, rule), 1);
        }
    }

    private static void leastNumber() {
        check.sentence("of like ones by a RULE: 0 the least number");
        LooksByMany x = new LooksByMany();
        for (int p = 0; p < 24; p++) {
            x.picture(1, 0, p % 10, false);
        }
        x.looker(0);
        for (int p = 0; p < 24; p++) {
            check.due("next(0, 0)", x.next(0, 0), p);
            x.look(0, p, 1);
        }
        check.due("next(0, 0)", x.next(0, 0), NONE);
    }

    private static void leastGreatestOdds() {
        check.sentence("1 the least greatest ODDS .. (by 1, 2: then the least number)");
        LooksByMany x = new LooksByMany();
        Make.pictures(x, 5, 1, 0, 1);
        Make.lookers(x, 0, 1, 2);
        Make.looks(x, 0, 1, 1, 1, 1, 1);
        Make.looks(x, 1, 1, 2, 1, 2, 1);
        x.reckon();
        Make.laws(x, "line 99;");
        check.due("like odds", x.odds(1, 1) - x.odds(3, 1) + x.odds(1, 2) - x.odds(3, 2), 0);
        check.isTrue("1 and 3 have lesser ones than 0", Math.max(x.odds(1, 1), x.odds(1, 2)) < x.odds(0, 1));
        check.due("next(2, 1)", x.next(2, 1), 1);
        x.look(2, 1, 1);
        check.due("next(2, 1), 1 is looked at", x.next(2, 1), 3);
        x.look(2, 3, 1);
        check.due("next(2, 1), of like ones", x.next(2, 1), 0);
        LooksByMany y = new LooksByMany();
        Make.pictures(y, 3, 1, 0, 1);
        y.looker(0);
        check.due("not reckoned, all alike", y.next(0, 1), 0);
    }

    private static void greatestDepth() {
        check.sentence("2 the greatest DEPTH (by 1, 2: then the least number)");
        LooksByMany x = new LooksByMany();
        for (int depth : new int[] {0, 8, 9, 9, 0, 8}) {
            x.picture(1, 0, depth, false);
        }
        x.looker(0);
        for (int p : new int[] {2, 3, 1, 5, 0, 4}) {
            check.due("next(0, 2)", x.next(0, 2), p);
            x.look(0, p, 1);
        }
        check.due("next(0, 2)", x.next(0, 2), NONE);
    }

    private static void nextIsRefused() {
        check.sentence("SHOWN NEXT by a RULE: the PICTURE; NONE. UNKNOWN, OUTSIDE.");
        edges.bounds("the looker of next", Make::something, 0, 2, UNKNOWN, (x, l) -> x.next(l, 0));
        edges.bounds("the rule of next", Make::something, 0, 2, OUTSIDE, (x, rule) -> x.next(0, rule));
        edges.refused("next(3, 3)", Make::something, UNKNOWN, x -> x.next(3, 3));
        edges.refused("next(-1, -1)", Make::something, UNKNOWN, x -> x.next(-1, -1));
        check.due("next without lookers", new LooksByMany().next(0, 0), UNKNOWN);
        // it tells the next one of those who go, too
        LooksByMany x = Make.something();
        check.due("stays(0)", x.stays(0), 0);
        check.due("next(0, 0)", x.next(0, 0), 4);
        check.due("next(0, 0) again: nothing was shown by it", x.next(0, 0), 4);
    }

    private static void nothingToShow() {
        check.sentence("the PICTURE; NONE.");
        LooksByMany x = new LooksByMany();
        x.looker(0);
        edges.answers("without pictures, next by rule", 0, rule -> x.next(0, rule), NONE, NONE, NONE);
        LooksByMany y = Make.fullOfLooks(1);
        edges.answers("of all looks, next of looker", 0, l -> y.next(l, 0), NONE, NONE, NONE, NONE, NONE, NONE, NONE, NONE);
        check.due("a ninth looker", y.next(8, 0), UNKNOWN);
    }

    private static LooksByMany nearOnes(int pictures, int lookers) {
        LooksByMany x = new LooksByMany();
        Make.pictures(x, pictures, 1, 0, 1);
        for (int l = 0; l < lookers; l++) {
            x.looker(0);
        }
        return x;
    }

    private static void turnsOfAnEvening() {
        check.sentence("AN EVENING of a SET, n turns (1 .. 20): how many LOOKS were made");
        edges.bounds("the turns of evening", Make::something, 1, 20, OUTSIDE, (x, n) -> x.evening(7, n, 0));
        check.due("one turn of one", nearOnes(24, 1).evening(1, 1, 0), 1);
        check.due("20 turns of one", nearOnes(24, 1).evening(1, 20, 0), 20);
        check.due("20 turns of all", nearOnes(24, 8).evening(255, 20, 0), 160);
        check.due("20 turns at 19 pictures", nearOnes(19, 1).evening(1, 20, 0), 19);
        LooksByMany x = nearOnes(24, 8);
        x.evening(3, 2, 0);
        check.due("only those of this evening", x.evening(12, 3, 0), 6);
        check.due("count(2)", x.count(2), 10);
    }

    private static void setsOfLookers() {
        check.sentence("A SET is a whole number, bit k for k.");
        LooksByMany x = nearOnes(24, 8);
        for (int l = 0; l < 8; l++) {
            check.due("an evening of " + l, x.evening(1 << l, 1, 0), 1);
            check.due("its looker", x.about(l, 0), l);
        }
        check.due("all but 3", x.evening(255 - 8, 1, 0), 7);
        edges.answers("about(k, 0)", 8, k -> x.about(k, 0), 0, 1, 2, 4, 5, 6, 7, UNKNOWN);
    }

    private static void eveningsByRules() {
        check.sentence("SHOWN the NEXT by a RULE");
        for (int rule = 0; rule <= 2; rule++) {
            LooksByMany x = new LooksByMany();
            x.picture(1, 0, 5, false);
            x.picture(1, 0, 5, false);
            x.picture(1, 0, 9, false);
            Make.lookers(x, 0, 0, 0);
            Make.looks(x, 0, 1, 1, 1);
            Make.looks(x, 1, 1, 2, 1);
            Make.laws(x, "line 99;");
            x.reckon();
            check.isTrue("1 has the least greatest odds", x.odds(1, 1) < x.odds(0, 1) && x.odds(1, 2) < x.odds(2, 1));
            check.due("next by rule " + rule, x.next(2, rule), rule);
            check.due("an evening by rule " + rule, x.evening(4, 1, rule), 1);
            check.due("the picture that was shown", x.about(6, 1), rule);
        }
    }

    private static void lookersByNumbers() {
        check.sentence("in each all LOOKERS of a SET by numbers");
        LooksByMany x = nearOnes(3, 8);
        check.due("the least and the greatest", x.evening(129, 2, 0), 4);
        edges.answers("about(k, 0)", 0, k -> x.about(k, 0), 0, 7, 0, 7);
        // 0 makes 1 and 2 have fewer looks than 0
        edges.answers("about(k, 1)", 0, k -> x.about(k, 1), 0, 1, 2, 0);
    }

    private static void theTurnGoesBy() {
        check.sentence("with nothing to show its turn goes by");
        LooksByMany x = nearOnes(2, 2);
        x.look(0, 0, 1);
        x.look(0, 1, 1);
        check.due("0 has nothing left, 1 has two", x.evening(3, 20, 0), 2);
        edges.answers("about(k, 0)", 0, k -> x.about(k, 0), 0, 0, 1, 1);
        check.due("nothing is left for all", x.evening(3, 20, 0), 0);
        LooksByMany y = nearOnes(2, 3);
        Make.laws(y, "most 2;");
        check.due("both are done after two looks each", y.evening(7, 20, 0), 4);
        check.due("evening without pictures", nearOnes(0, 2).evening(3, 20, 0), 0);
    }

    private static void whoGoesIsNotShown() {
        check.sentence("who STAYS is SHOWN the NEXT by a RULE and says");
        LooksByMany x = new LooksByMany();
        Make.pictures(x, 5, 1, 1, 1);
        Make.lookers(x, 0, 5);
        check.due("each goes after three far ones", x.evening(3, 20, 0), 6);
        check.due("those who are gone", x.evening(3, 20, 0), 0);
        check.due("count(7)", x.count(7), 0);
        Make.laws(x, "patience 4;");
        check.due("one more of each by a greater patience", x.evening(3, 20, 0), 2);
        Make.laws(x, "patience 9;");
        check.due("what is left", x.evening(3, 20, 0), 2);
    }

    private static void eveningOfAllLooks() {
        check.sentence("(it ends when LOOKS are 200)");
        // LOOKS end at 192, before that: then each turn goes by
        LooksByMany x = nearOnes(24, 8);
        check.due("20 turns", x.evening(255, 20, 0), 160);
        check.due("four more are enough", x.evening(255, 20, 0), 32);
        check.due("count(2)", x.count(2), 192);
        int seed = x.seed(1);
        x.seed(seed);
        check.due("nothing is left", x.evening(255, 20, 0), 0);
        check.due("nothing was drawn", x.seed(1), seed);
        check.due("look(0, 0, 1)", x.look(0, 0, 1), -1003);
    }

    private static void eveningIsRefused() {
        check.sentence("UNKNOWN (bits), OUTSIDE.");
        edges.bounds("the set of evening", Make::something, 0, 7, UNKNOWN, (x, set) -> x.evening(set, 1, 0));
        edges.bounds("the set of eight", Make::fullOfLookers, 0, 255, UNKNOWN, (x, set) -> x.evening(set, 1, 0));
        edges.bounds("the set of none", LooksByMany::new, 0, 0, UNKNOWN, (x, set) -> x.evening(set, 1, 0));
        edges.bounds("the rule of evening", Make::something, 0, 2, OUTSIDE, (x, rule) -> x.evening(7, 1, rule));
        edges.refused("bits beside lookers", Make::something, UNKNOWN, x -> x.evening(9, 1, 0));
        edges.refused("bit 30", Make::something, UNKNOWN, x -> x.evening(1 << 30, 1, 0));
        edges.refused("bit 31 beside a looker", Make::something, UNKNOWN, x -> x.evening(1 << 31 | 1, 1, 0));
        edges.refused("bits ahead of turns", Make::something, UNKNOWN, x -> x.evening(8, 0, 0));
        edges.refused("bits ahead of 21 turns", Make::something, UNKNOWN, x -> x.evening(-1, 21, 0));
        edges.refused("bits ahead of a rule", Make::something, UNKNOWN, x -> x.evening(8, 1, 3));
        edges.refused("no turns of none", Make::something, OUTSIDE, x -> x.evening(0, 0, 0));
    }

    private static void eveningsOfNone() {
        check.sentence("AN EVENING of a SET");
        check.due("of nothing", new LooksByMany().evening(0, 1, 0), 0);
        LooksByMany x = nearOnes(3, 2);
        x.seed(9);
        check.due("of no lookers", x.evening(0, 20, 2), 0);
        check.due("count(2)", x.count(2), 0);
        check.due("seed(1)", x.seed(1), 9);
    }

    private static void fewerLooksThanPatience() {
        check.sentence("A LOOKER STAYS, if it has not patience LOOKS or more");
        for (int patience = 1; patience <= 9; patience++) {
            LooksByMany x = new LooksByMany();
            Make.pictures(x, 10, 1, 1, 1);
            Make.lookers(x, 0, 0);
            Make.laws(x, "patience " + patience + ";");
            for (int looks = 0; looks <= 10; looks++) {
                check.due("stays by patience " + patience + ", after " + looks, x.stays(0), looks < patience ? 1 : 0);
                if (looks < 10) {
                    x.look(0, looks, 1);
                }
            }
            check.due("one without looks", x.stays(1), 1);
        }
    }

    private static void notAllLastOnesFar() {
        check.sentence("or not all its last ones, so many, are at FAR PICTURES");
        LooksByMany x = new LooksByMany();
        Make.pictures(x, 2, 1, 0, 1);
        Make.pictures(x, 8, 1, 1, 1);
        Make.lookers(x, 0, 0);
        x.look(0, 0, 1);
        for (int p = 2; p <= 4; p++) {
            check.due("a near one is among the last three", x.stays(0), 1);
            x.look(0, p, 1);
            // the looks of others stand between
            x.look(1, p == 2 ? 0 : p, 1);
        }
        check.due("the near one is the fourth from the end", x.stays(0), 0);
        Make.laws(x, "patience 4;");
        check.due("it is among the last four", x.stays(0), 1);
        Make.laws(x, "patience 3;");
        x.look(0, 1, 1);
        check.due("the last one is near", x.stays(0), 1);
        Make.laws(x, "patience 1;");
        check.due("the last one is near, by patience 1", x.stays(0), 1);
        check.due("the last one is far, by patience 1", x.stays(1), 0);
    }

    private static void staysIsRefused() {
        check.sentence("Whether a LOOKER STAYS: 1, 0. UNKNOWN.");
        edges.bounds("stays", Make::something, 0, 2, UNKNOWN, LooksByMany::stays);
        check.due("stays without lookers", new LooksByMany().stays(0), UNKNOWN);
        check.due("the last of eight", Make.fullOfLookers().stays(7), 1);
        check.due("a ninth", Make.fullOfLookers().stays(8), UNKNOWN);
    }
}
