import java.util.ArrayList;
import java.util.List;

/**
 * All that an object can be asked, in parts: each part is asked of an object of its own, for some of the questions
 * change what is asked, and all together would be more than 512 calls.
 */
final class Telling {
    static final int PARTS = 8;
    private static final int MOST_THINGS = 8, SMALL_SETS = 16;

    private final LooksByMany x;
    private final List<Integer> told = new ArrayList<>();

    private Telling(LooksByMany x) {
        this.x = x;
    }

    static List<Integer> of(LooksByMany x, int part) {
        Telling it = new Telling(x);
        switch (part) {
            case 0 -> it.countsAndLaws();
            case 1 -> it.pictures();
            case 2 -> it.looks();
            case 3 -> it.lookers();
            case 4 -> it.agreed();
            case 5 -> it.reckoned();
            case 6 -> it.trees();
            default -> it.whatComesOfIt();
        }
        return it.told;
    }

    private void countsAndLaws() {
        for (int what = 0; what <= 8; what++) {
            told.add(x.count(what));
        }
        for (int what = 0; what <= 7; what++) {
            told.add(x.law(what));
        }
        told.add(x.fault());
        // what the text is shows only as it is read
        told.add(x.feed(1, ';'));
        told.add(x.read());
        told.add(x.fault());
        for (int what = 0; what <= 7; what++) {
            told.add(x.law(what));
        }
    }

    private void pictures() {
        for (int p = 0; p < x.count(0); p++) {
            for (int what = 0; what <= 7; what++) {
                told.add(x.told(p, what));
            }
        }
    }

    private void looks() {
        for (int k = 0; k < x.count(2); k++) {
            for (int what = 0; what <= 3; what++) {
                told.add(x.about(k, what));
            }
        }
    }

    private void lookers() {
        for (int l = 0; l < x.count(1); l++) {
            told.add(x.stays(l));
            told.add(x.lean(l, 0));
            told.add(x.lean(l, 1));
            for (int rule = 0; rule <= 2; rule++) {
                told.add(x.next(l, rule));
            }
            for (int i = 0; i < 12; i++) {
                told.add(x.table(l, i / 4, i % 4));
            }
        }
    }

    private void agreed() {
        for (int l = 0; l < x.count(1); l++) {
            for (int m = 0; m < l; m++) {
                for (int what = 0; what <= 2; what++) {
                    told.add(x.agreed(l, m, what));
                }
            }
        }
    }

    private void reckoned() {
        for (int p = 0; p < x.count(0); p++) {
            for (int kind = 0; kind <= 2; kind++) {
                told.add(x.odds(p, kind));
            }
            told.add(x.green(p));
        }
        for (int i = 0; i <= 2; i++) {
            told.add(x.sky(i));
            told.add(x.far(37, i));
            told.add(x.given(i));
        }
    }

    private void trees() {
        for (int set = 1; set < SMALL_SETS; set++) {
            for (int what = 0; what <= 2; what++) {
                told.add(x.tree(set, what));
            }
        }
        for (int t = 0; t < MOST_THINGS; t++) {
            told.add(x.wrong(t));
        }
        // these two answer what it was
        for (int t = 0; t < MOST_THINGS; t++) {
            told.add(x.weight(t, 1));
        }
        for (int k = 0; k <= 5; k++) {
            told.add(x.question(k, 0));
        }
    }

    private void whatComesOfIt() {
        int all = (1 << x.count(1)) - 1;
        told.add(x.evening(all, 2, 1));
        told.add(x.seed(0));
        told.add(x.count(2));
        told.add(x.reckon());
        told.add(x.picture(1, 1, 4, false));
        told.add(x.looker(3));
        told.add(x.mirror(0));
        for (int p = 0; p < x.count(0); p++) {
            told.add(x.odds(p, 0));
            told.add(x.odds(p, 1));
            told.add(x.told(p, 5));
        }
    }
}
