import java.util.ArrayList;
import java.util.List;

/** Boundary cases of promise 1 and of the first paragraph of 'Terms': each sentence has a test of its own. */
public final class EdgeTermsTest {
    private static final int NONE = -1, UNKNOWN = -1001, OUTSIDE = -1002, NOT = -1003, FULL = -1004;
    private static final Check check = new Check();
    private static final Edges edges = new Edges(check);

    public static void main(String[] args) {
        constants();
        cutsTowardsNought();
        numbersFromNought();
        unknownBeforeOutside();
        outsideBeforeNot();
        outsideBeforeFull();
        unknownAndNotBeforeFull();
        whatIsRefusedTakesNoNumber();
        whatIsRefusedDrawsNothing();
        whatIsRefusedLeavesTexts();
        manyRefusals();
        aNewObject();
        objectsAreApart();
        theLastCall();
        check.end();
    }

    private static void constants() {
        check.sentence("NONE = -1, UNKNOWN = -1001, OUTSIDE = -1002, NOT = -1003, FULL = -1004");
        check.due("NONE", LooksByMany.NONE, -1);
        check.due("UNKNOWN", LooksByMany.UNKNOWN, -1001);
        check.due("OUTSIDE", LooksByMany.OUTSIDE, -1002);
        check.due("NOT", LooksByMany.NOT, -1003);
        check.due("FULL", LooksByMany.FULL, -1004);
    }

    private static void cutsTowardsNought() {
        check.sentence("/ cuts towards 0");
        LooksByMany x = Make.mirrored(3);
        Make.looks(x, 0, 1, 1, 1, 2, 2, 1);
        Make.looks(x, 1, 2, 2, 1, 2, 2, 1);
        check.due("100 / 3", x.lean(0, 0), 1033);
        check.due("-100 / 3", x.lean(1, 0), 967);
    }

    private static void numbersFromNought() {
        check.sentence("What has a number has it from 0 on, as it comes.");
        LooksByMany x = new LooksByMany();
        check.due("a picture", x.picture(1, 0, 1, false), 0);
        check.due("a mirror is numbered as a picture", x.mirror(0), 1);
        check.due("a picture", x.picture(2, 0, 1, false), 2);
        check.due("a looker", x.looker(5), 0);
        check.due("a looker of the same sort", x.looker(5), 1);
        check.due("a look by hand", x.look(1, 2, 1), 0);
        x.says(0, 0);
        check.due("a look by draws", x.about(1, 1), 0);
        check.due("two looks of an evening", x.evening(3, 1, 0), 2);
        check.due("are numbered on", x.about(3, 0), 1);
        check.due("a look by hand", x.look(0, 2, 1), 4);
    }

    private static void unknownBeforeOutside() {
        check.sentence("REFUSALS, of several the first in this order: UNKNOWN .. OUTSIDE");
        LooksByMany x = Make.something();
        check.due("told(5, 8)", x.told(5, 8), UNKNOWN);
        check.due("look(3, 0, 4)", x.look(3, 0, 4), UNKNOWN);
        check.due("look(0, 5, 4)", x.look(0, 5, 4), UNKNOWN);
        check.due("about(8, 4)", x.about(8, 4), UNKNOWN);
        check.due("next(3, 3)", x.next(3, 3), UNKNOWN);
        check.due("evening(8, 0, 0)", x.evening(8, 0, 0), UNKNOWN);
        check.due("evening(8, 1, 3)", x.evening(8, 1, 3), UNKNOWN);
        check.due("odds(5, 3)", x.odds(5, 3), UNKNOWN);
        check.due("table(3, 3, 0)", x.table(3, 3, 0), UNKNOWN);
        check.due("table(3, 0, 4)", x.table(3, 0, 4), UNKNOWN);
        check.due("lean(3, 2)", x.lean(3, 2), UNKNOWN);
        check.due("agreed(0, 3, 3)", x.agreed(0, 3, 3), UNKNOWN);
        check.due("agreed(3, 0, 3)", x.agreed(3, 0, 3), UNKNOWN);
        check.due("agreed(0, 0, 3), one twice", x.agreed(0, 0, 3), UNKNOWN);
    }

    private static void outsideBeforeNot() {
        check.sentence("REFUSALS, of several the first in this order: .. OUTSIDE .. NOT");
        LooksByMany x = Make.something();
        check.due("look(0, 0, 4), where there is one", x.look(0, 0, 4), OUTSIDE);
        check.due("look(0, 0, -1), where there is one", x.look(0, 0, -1), OUTSIDE);
        check.due("look(0, 0, 3), where there is one", x.look(0, 0, 3), NOT);
    }

    private static void outsideBeforeFull() {
        check.sentence("REFUSALS, of several the first in this order: .. OUTSIDE .. FULL");
        LooksByMany x = Make.fullOfPictures();
        check.due("picture(3, 0, 0)", x.picture(3, 0, 0, false), OUTSIDE);
        check.due("picture(0, 2, 0)", x.picture(0, 2, 0, false), OUTSIDE);
        check.due("picture(0, 0, 10)", x.picture(0, 0, 10, false), OUTSIDE);
        check.due("picture(0, 0, 0)", x.picture(0, 0, 0, false), FULL);
        LooksByMany y = Make.fullOfLookers();
        check.due("looker(6)", y.looker(6), OUTSIDE);
        check.due("looker(5)", y.looker(5), FULL);
        LooksByMany z = Make.fullOfText();
        check.due("feed(0, ..)", z.feed(0, 0), OUTSIDE);
        check.due("feed(9, ..)", z.feed(9, 0), OUTSIDE);
        check.due("feed(8, ..)", z.feed(8, 0), FULL);
    }

    private static void unknownAndNotBeforeFull() {
        check.sentence("REFUSALS, of several the first in this order: UNKNOWN .. NOT .. FULL");
        LooksByMany x = Make.fullOfPictures();
        check.due("mirror(24)", x.mirror(24), UNKNOWN);
        check.due("mirror(-1)", x.mirror(-1), UNKNOWN);
        check.due("mirror(2), of a mirror", x.mirror(2), NOT);
        check.due("mirror(0)", x.mirror(0), FULL);
    }

    private static void whatIsRefusedTakesNoNumber() {
        check.sentence("What is refused changes nothing.");
        LooksByMany x = new LooksByMany();
        x.picture(1, 0, 10, false);
        x.mirror(0);
        check.due("the first picture", x.picture(1, 0, 9, false), 0);
        x.mirror(0);
        x.mirror(1);
        x.picture(-1, 0, 0, false);
        check.due("the third picture", x.picture(1, 0, 9, false), 2);
        x.looker(6);
        check.due("the first looker", x.looker(5), 0);
        x.look(0, 0, 4);
        x.look(1, 0, 1);
        check.due("the first look", x.look(0, 0, 1), 0);
        x.look(0, 0, 2);
        x.says(0, 0);
        check.due("the second look", x.look(0, 1, 1), 1);
        check.due("the first answer", x.about(0, 2), 1);
    }

    private static void whatIsRefusedDrawsNothing() {
        check.sentence("What is refused changes nothing.");
        LooksByMany x = Make.something();
        x.seed(5);
        x.seed(-1);
        x.says(0, 0);
        x.says(0, 5);
        x.says(3, 0);
        x.evening(8, 1, 0);
        x.evening(7, 0, 0);
        x.evening(7, 21, 0);
        x.evening(7, 1, 3);
        check.due("seed(0)", x.seed(0), 5);
        check.due("count(2)", x.count(2), 8);
    }

    private static void whatIsRefusedLeavesTexts() {
        check.sentence("What is refused changes nothing.");
        LooksByMany x = new LooksByMany();
        Make.text(x, " ".repeat(150) + "far 7");
        // eight bytes do not fit behind 155: not even the first five of these come
        check.due("feed(8, ..)", x.feed(8, 0x3B3B3B3B3B3B3B3BL), FULL);
        check.due("feed(9, ..)", x.feed(9, 0x3B3B3B3B3B3B3B3BL), OUTSIDE);
        check.due("count(6)", x.count(6), 155);
        check.due("feed(1, ';')", x.feed(1, ';'), 156);
        check.due("read()", x.read(), 1);
        check.due("law(1)", x.law(1), 7);
    }

    /** A call of each kind that is refused, one behind the other on one object. */
    private static void manyRefusals() {
        check.sentence("What is refused changes nothing.");
        for (int part = 0; part < Telling.PARTS; part++) {
            LooksByMany x = Make.something();
            List<Integer> refusals = new ArrayList<>(List.of(x.picture(3, 0, 0, true), x.mirror(2), x.mirror(5),
                    x.looker(6), x.feed(9, 0), x.law(8), x.count(9), x.told(0, 8)));
            refusals.addAll(List.of(x.seed(-1), x.look(0, 0, 1), x.look(2, 0, 4), x.says(0, 0), x.says(3, 0),
                    x.about(8, 0), x.next(0, 3), x.evening(7, 21, 0)));
            refusals.addAll(List.of(x.stays(3), x.odds(0, 3), x.table(0, 0, 4), x.sky(3), x.far(101, 0),
                    x.lean(0, 2), x.agreed(0, 0, 0), x.green(-1), x.given(3)));
            refusals.addAll(List.of(x.things(9), x.weight(0, 0), x.question(6, 0), x.tree(0, 0), x.wrong(4)));
            check.isTrue("all are refused: " + refusals, refusals.stream().allMatch(answer -> answer <= UNKNOWN));
            check.isTrue("nothing has changed (part " + part + ")",
                    Telling.of(x, part).equals(Telling.of(Make.something(), part)));
        }
    }

    private static void aNewObject() {
        check.sentence("No PICTURES, no LOOKERS; LAWS as at first.");
        edges.answers("count", 0, new LooksByMany()::count, 0, 0, 0, 0, 0, 0, 0, 0, 0, OUTSIDE);
        edges.answers("law", 0, new LooksByMany()::law, 90, 60, 30, 5, 90, 8, 3, 95, OUTSIDE);
        LooksByMany x = new LooksByMany();
        check.due("fault()", x.fault(), NONE);
        check.due("read()", x.read(), 0);
        check.due("mirror(0)", x.mirror(0), UNKNOWN);
        check.due("told(0, 0)", x.told(0, 0), UNKNOWN);
        check.due("look(0, 0, 0)", x.look(0, 0, 0), UNKNOWN);
        check.due("says(0, 0)", x.says(0, 0), UNKNOWN);
        check.due("about(0, 0)", x.about(0, 0), UNKNOWN);
        check.due("next(0, 0)", x.next(0, 0), UNKNOWN);
        check.due("evening(0, 1, 0)", x.evening(0, 1, 0), 0);
        check.due("evening(1, 1, 0)", x.evening(1, 1, 0), UNKNOWN);
        check.due("stays(0)", x.stays(0), UNKNOWN);
        check.due("odds(0, 0)", x.odds(0, 0), UNKNOWN);
        check.due("table(0, 0, 0)", x.table(0, 0, 0), UNKNOWN);
        edges.answers("sky", 0, x::sky, 334, 333, 333, OUTSIDE);
        edges.answers("far(50, kind)", 0, kind -> x.far(50, kind), 0, 0, 0, OUTSIDE);
        check.due("lean(0, 0)", x.lean(0, 0), UNKNOWN);
        check.due("agreed(0, 1, 0)", x.agreed(0, 1, 0), UNKNOWN);
        check.due("green(0)", x.green(0), NONE);
        edges.answers("given", 0, x::given, 0, 0, 0, OUTSIDE);
        edges.answers("tree(3, what)", 0, what -> x.tree(3, what), 0, NONE, 0, OUTSIDE);
        edges.answers("wrong", 0, x::wrong, 0, 0, OUTSIDE);
        check.due("seed(0)", x.seed(0), 0);
        check.due("reckon()", x.reckon(), 1);
    }

    private static void theLastCall() {
        check.sentence("An object is used for at most 512 calls after it has been made");
        LooksByMany x = Make.fullOfLooks(1);
        LooksByMany y = new LooksByMany();
        // 24 pictures, 8 lookers and 192 looks were 224 calls
        for (int i = 224; i < 511; i++) {
            check.due("call " + (i + 1), x.about((i - 224) % 192, 2), 1);
        }
        check.due("the 512th call", x.about(191, 0), 7);
        for (int i = 0; i < 511; i++) {
            check.due("call " + (i + 1), y.seed(i + 1), i);
        }
        check.due("the 512th call", y.seed(0), 511);
    }

    private static void objectsAreApart() {
        check.sentence("A new object");
        for (int part = 0; part < Telling.PARTS; part++) {
            LooksByMany x = new LooksByMany();
            List<Integer> due = Telling.of(new LooksByMany(), part);
            Make.something();
            check.isTrue("another does not bear on it (part " + part + ")", Telling.of(x, part).equals(due));
        }
    }
}
