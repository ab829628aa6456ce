import java.util.Random;

/**
 * All promises: random runs of 512 calls, each answer held against the plain model's. Numbers are now and then
 * far out of their bounds, so that refusals, too, are asked for in every state.
 */
public final class ModelTest {
    private static final int RUNS = 700, CALLS = 512, MOST_AT_ONCE = 110;
    private static final int[] STRANGE = {-1, Integer.MIN_VALUE, Integer.MAX_VALUE, 24, 200, 256, -1001, 1 << 8};
    private static final String[] WORDS =
            {"sharp", "far", "lean", "tire", "line", "most", "patience", "sure", "fa", "suree", "X"};
    private static final Check check = new Check();

    private final Random random;
    private final LooksByMany x = new LooksByMany();
    private final Model m = new Model();
    private final int strangeness;
    private final int run;
    private int calls;

    private ModelTest(int run) {
        this.run = run;
        random = new Random(run);
        strangeness = run % 4 == 0 ? 8 : 40;
    }

    public static void main(String[] args) {
        for (int run = 0; run < RUNS; run++) {
            new ModelTest(run).go();
        }
        check.end();
    }

    private void go() {
        int pictures = random.nextInt(26);
        for (int i = 0; i < pictures; i++) {
            makePicture();
        }
        int lookers = random.nextInt(10);
        for (int i = 0; i < lookers; i++) {
            makeLooker();
        }
        while (calls < CALLS - MOST_AT_ONCE) {
            call();
        }
        check.isTrue("run " + run + " has no more than 512 calls: " + calls, calls <= CALLS);
    }

    private void due(String call, long got, long want) {
        calls++;
        check.due("run " + run + ": " + call, got, want);
    }

    /** A number from least on, below most; now and then a strange one or one just out of these. */
    private int any(int least, int most) {
        if (random.nextInt(strangeness) == 0) {
            return random.nextBoolean() ? STRANGE[random.nextInt(STRANGE.length)] : random.nextBoolean() ? least - 1 : most;
        }
        return least + random.nextInt(Math.max(1, most - least));
    }

    private int anyPicture() {
        return any(0, m.count(0));
    }

    private int anyLooker() {
        return any(0, m.count(1));
    }

    private void makePicture() {
        int kind = any(0, 3);
        int far = any(0, 2);
        int depth = any(0, 10);
        boolean known = random.nextInt(3) == 0;
        if (random.nextInt(3) == 0) {
            int p = anyPicture();
            due("mirror(" + p + ")", x.mirror(p), m.mirror(p));
        } else {
            due("picture", x.picture(kind, far, depth, known), m.picture(kind, far, depth, known));
        }
    }

    private void makeLooker() {
        int sort = any(0, 6);
        due("looker(" + sort + ")", x.looker(sort), m.looker(sort));
    }

    private void call() {
        int which = random.nextInt(100);
        if (which < 4) {
            readLaws();
        } else if (which < 6) {
            makePicture();
        } else if (which < 8) {
            makeLooker();
        } else if (which < 40) {
            callLooks();
        } else if (which < 60) {
            callReckoned();
        } else if (which < 80) {
            callTrees();
        } else {
            callTold();
        }
    }

    private void readLaws() {
        StringBuilder text = new StringBuilder();
        int clauses = random.nextInt(4);
        for (int i = 0; i < clauses; i++) {
            text.append(blanks()).append(WORDS[random.nextInt(random.nextInt(5) == 0 ? WORDS.length : 8)]);
            text.append(blanks()).append(random.nextInt(random.nextInt(3) == 0 ? 1200 : 10)).append(blanks());
            text.append(";").append(blanks());
        }
        if (text.length() > 0 && random.nextInt(4) == 0) {
            int at = random.nextInt(text.length());
            if (random.nextBoolean()) {
                text.deleteCharAt(at);
            } else {
                text.insert(at, (char) random.nextInt(256));
            }
        }
        for (int at = 0; at < text.length();) {
            int n = 1 + random.nextInt(Math.min(8, text.length() - at));
            long bytes = random.nextLong();
            for (int i = 0; i < n; i++, at++) {
                bytes = bytes << 8 | text.charAt(at);
            }
            due("feed", x.feed(n, bytes), m.feed(n, bytes));
        }
        if (random.nextInt(10) == 0) {
            int n = any(1, 9);
            long bytes = random.nextLong();
            due("feed", x.feed(n, bytes), m.feed(n, bytes));
        }
        if (random.nextInt(8) != 0) {
            due("read of '" + text + "'", x.read(), m.read());
            due("fault of '" + text + "'", x.fault(), m.fault());
        }
    }

    private String blanks() {
        return " ".repeat(Math.max(0, random.nextInt(4) - 1));
    }

    private void callLooks() {
        int l = anyLooker();
        int p = anyPicture();
        int answer = any(0, 4);
        int rule = any(0, 3);
        int set = any(0, 1 << m.count(1));
        int n = any(1, random.nextBoolean() ? 3 : 21);
        int v = random.nextInt();
        switch (random.nextInt(6)) {
            case 0 -> due("seed(" + v + ")", x.seed(v), m.seed(v));
            case 1 -> due("look(" + l + ", " + p + ", " + answer + ")", x.look(l, p, answer), m.look(l, p, answer));
            case 2 -> due("says(" + l + ", " + p + ")", x.says(l, p), m.says(l, p));
            case 3 -> due("next(" + l + ", " + rule + ")", x.next(l, rule), m.next(l, rule));
            case 4 -> {
                if (random.nextInt(4) == 0) {
                    due("evening(" + set + ", " + n + ", " + rule + ")", x.evening(set, n, rule), m.evening(set, n, rule));
                }
            }
            default -> due("stays(" + l + ")", x.stays(l), m.stays(l));
        }
    }

    private void callReckoned() {
        int l = anyLooker();
        int p = anyPicture();
        int kind = any(0, 3);
        int answer = any(0, 4);
        int h = any(0, 101);
        switch (random.nextInt(6)) {
            case 0 -> {
                if (random.nextInt(3) == 0) {
                    due("reckon()", x.reckon(), m.reckon());
                }
            }
            case 1 -> due("odds(" + p + ", " + kind + ")", x.odds(p, kind), m.odds(p, kind));
            case 2 -> due("table(" + l + ", " + kind + ", " + answer + ")", x.table(l, kind, answer),
                    m.table(l, kind, answer));
            case 3 -> due("sky(" + kind + ")", x.sky(kind), m.sky(kind));
            case 4 -> due("far(" + h + ", " + kind + ")", x.far(h, kind), m.far(h, kind));
            default -> due("count(8)", x.count(8), m.count(8));
        }
    }

    private void callTrees() {
        int n = any(2, 9);
        int t = any(0, 8);
        int v = any(1, 100);
        int k = any(0, 6);
        int set = any(0, 1 << random.nextInt(9));
        int what = any(0, 3);
        switch (random.nextInt(12)) {
            case 0 -> {
                if (random.nextInt(4) == 0) {
                    due("things(" + n + ")", x.things(n), m.things(n));
                }
            }
            case 1, 2 -> due("weight(" + t + ", " + v + ")", x.weight(t, v), m.weight(t, v));
            case 3, 4, 5, 6 -> due("question(" + k + ", " + set + ")", x.question(k, set), m.question(k, set));
            case 7, 8, 9 -> due("tree(" + set + ", " + what + ")", x.tree(set, what), m.tree(set, what));
            default -> due("wrong(" + t + ")", x.wrong(t), m.wrong(t));
        }
    }

    private void callTold() {
        int l = anyLooker();
        int other = anyLooker();
        int p = anyPicture();
        int k = any(0, m.count(2));
        int what = any(0, 9);
        int few = any(0, 3);
        switch (random.nextInt(8)) {
            case 0 -> due("count(" + what + ")", x.count(what), m.count(what));
            case 1 -> due("told(" + p + ", " + what + ")", x.told(p, what), m.told(p, what));
            case 2 -> due("law(" + what + ")", x.law(what), m.law(what));
            case 3 -> due("about(" + k + ", " + (what - 3) + ")", x.about(k, what - 3), m.about(k, what - 3));
            case 4 -> due("lean(" + l + ", " + few + ")", x.lean(l, few), m.lean(l, few));
            case 5 -> due("agreed(" + l + ", " + other + ", " + few + ")", x.agreed(l, other, few),
                    m.agreed(l, other, few));
            case 6 -> due("green(" + what + ")", x.green(what), m.green(what));
            default -> due("given(" + few + ")", x.given(few), m.given(few));
        }
    }
}
