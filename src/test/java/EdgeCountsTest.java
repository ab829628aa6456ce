/** Boundary cases of promise 9: what is counted when there is none, when all is full, and what is refused. */
public final class EdgeCountsTest {
    private static final int OUTSIDE = -1002;
    private static final Check check = new Check();
    private static final Edges edges = new Edges(check);

    public static void main(String[] args) {
        countIsRefused();
        nothingIsThere();
        fullOfPictures();
        fullOfMirrors();
        fullOfLooks();
        fullOfText();
        noneStays();
        roundsOfTheLatest();
        check.end();
    }

    private static void countIsRefused() {
        check.sentence("How many: 0 PICTURES .. 8 ROUNDS of the latest RECKONING. OUTSIDE.");
        edges.bounds("what of count", Make::something, 0, 8, OUTSIDE, LooksByMany::count);
        LooksByMany x = Make.something();
        edges.answers("count of something", 0, x::count, 5, 3, 8, 1, 1, 2, 6, 2, x.count(8));
    }

    private static void nothingIsThere() {
        check.sentence("No PICTURES, no LOOKERS; LAWS as at first.");
        LooksByMany x = new LooksByMany();
        edges.answers("count of a new object", 0, x::count, 0, 0, 0, 0, 0, 0, 0, 0, 0);
    }

    private static void fullOfPictures() {
        check.sentence("0 PICTURES .. 3 KNOWN ones .. 5 DONE ones");
        LooksByMany x = new LooksByMany();
        for (int p = 0; p < 24; p++) {
            x.picture(2, 1, 9, true);
        }
        edges.answers("count of 24 known ones", 0, x::count, 24, 0, 0, 24, 0, 0, 0, 0, 0);
        x.reckon();
        edges.answers("count of these, reckoned", 0, x::count, 24, 0, 0, 24, 0, 24, 0, 0, 2);
    }

    private static void fullOfMirrors() {
        check.sentence("4 MIRRORS");
        LooksByMany x = new LooksByMany();
        x.picture(1, 0, 0, true);
        for (int p = 1; p < 24; p++) {
            x.mirror(0);
        }
        edges.answers("count of 23 mirrors", 0, x::count, 24, 0, 0, 1, 23);
    }

    private static void fullOfLooks() {
        check.sentence("1 LOOKERS, 2 LOOKS .. 5 DONE ones .. 7 LOOKERS that STAY");
        LooksByMany x = Make.fullOfLooks(1);
        edges.answers("count of all looks", 0, x::count, 24, 8, 192, 0, 0, 24, 0, 8, 0);
    }

    private static void fullOfText() {
        check.sentence("6 bytes of THE TEXT");
        LooksByMany x = new LooksByMany();
        Make.text(x, " ".repeat(159));
        check.due("count(6)", x.count(6), 159);
        x.feed(1, ' ');
        check.due("count(6) when full", x.count(6), 160);
        x.read();
        check.due("count(6) when read", x.count(6), 0);
    }

    private static void noneStays() {
        check.sentence("7 LOOKERS that STAY");
        LooksByMany x = new LooksByMany();
        x.picture(1, 1, 1, false);
        Make.lookers(x, 0, 0, 0, 0, 0, 0, 0, 0);
        Make.laws(x, "patience 1;");
        for (int l = 0; l < 8; l++) {
            check.due("count(7)", x.count(7), 8 - l);
            x.look(l, 0, 1);
        }
        check.due("count(7) when all are gone", x.count(7), 0);
    }

    private static void roundsOfTheLatest() {
        check.sentence("8 ROUNDS of the latest RECKONING");
        LooksByMany x = new LooksByMany();
        check.due("none was yet", x.count(8), 0);
        x.reckon();
        check.due("of no pictures", x.count(8), 1);
        x.picture(1, 0, 1, true);
        check.due("of the latest, not of what was told since", x.count(8), 1);
        x.reckon();
        check.due("of one known picture", x.count(8), 2);
        check.due("just 40", afterRounds(40).count(8), 40);
        check.due("not by 40", afterRounds(-41).count(8), 40);
        LooksByMany y = afterRounds(-41);
        Make.laws(y, "line 34;");
        check.due("laws change no rounds", y.count(8), 40);
    }

    /** Reckoned by just 40 rounds, or not by 40: EdgeReckonTest tells more of these. */
    private static LooksByMany afterRounds(int rounds) {
        LooksByMany x = rounds == 40 ? Make.settledByForty() : Make.settledByFortyOne();
        check.due("reckon()", x.reckon(), rounds);
        return x;
    }
}
