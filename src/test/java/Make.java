import java.nio.charset.StandardCharsets;

/** What many tests need made: texts fed, laws read, looks told, seeds that give the draws asked for. */
final class Make {
    private Make() {
    }

    /** Feeds a text of signs 0 to 255 in pieces of at most eight bytes; answers what the last feed did. */
    static int text(LooksByMany x, String text) {
        byte[] bytes = text.getBytes(StandardCharsets.ISO_8859_1);
        int answer = x.count(6);
        for (int at = 0; at < bytes.length; at += 8) {
            int n = Math.min(8, bytes.length - at);
            long packed = 0;
            for (int i = 0; i < n; i++) {
                packed = packed << 8 | bytes[at + i] & 255;
            }
            answer = x.feed(n, packed);
        }
        return answer;
    }

    static int laws(LooksByMany x, String text) {
        text(x, text);
        return x.read();
    }

    static void pictures(LooksByMany x, int n, int kind, int far, int depth) {
        for (int i = 0; i < n; i++) {
            x.picture(kind, far, depth, false);
        }
    }

    static void lookers(LooksByMany x, int... sorts) {
        for (int sort : sorts) {
            x.looker(sort);
        }
    }

    /** Looks of one looker at the pictures 0, 1, 2 .. with these answers; -1 leaves one out. */
    static void looks(LooksByMany x, int l, int... answers) {
        for (int p = 0; p < answers.length; p++) {
            if (answers[p] >= 0) {
                x.look(l, p, answers[p]);
            }
        }
    }

    /**
     * Something of all there is: 5 pictures (1 known, 2 the mirror of 0, 4 told since all was reckoned), 3 lookers
     * (2 without looks), 8 looks, laws, the fault of a text that was read since, a text that is not read yet, 4 things.
     */
    static LooksByMany something() {
        LooksByMany x = new LooksByMany();
        laws(x, "far 50; lean 40; patience 1; sure 60;");
        laws(x, "far x");
        text(x, "tire 7");
        x.picture(1, 0, 3, false);
        x.picture(2, 1, 9, true);
        x.mirror(0);
        x.picture(0, 1, 0, false);
        lookers(x, 0, 4, 5);
        looks(x, 0, 1, 2, 1, 0);
        looks(x, 1, 1, 2, 2);
        x.reckon();
        x.picture(2, 0, 8, false);
        x.look(1, 4, 3);
        x.things(4);
        x.weight(1, 9);
        x.question(0, 3);
        x.question(4, 5);
        x.seed(77);
        return x;
    }

    /** The same, with 24 pictures. */
    static LooksByMany fullOfPictures() {
        LooksByMany x = something();
        pictures(x, 19, 1, 0, 1);
        return x;
    }

    /** The same, with 8 lookers. */
    static LooksByMany fullOfLookers() {
        LooksByMany x = something();
        lookers(x, 0, 1, 2, 3, 4);
        return x;
    }

    /** The same, with a text of 160 bytes. */
    static LooksByMany fullOfText() {
        LooksByMany x = something();
        text(x, " ".repeat(160 - x.count(6)));
        return x;
    }

    /** All the looks there can be: 24 near pictures, 8 lookers, one look of each at each, with one answer. */
    static LooksByMany fullOfLooks(int answer) {
        LooksByMany x = new LooksByMany();
        pictures(x, 24, 1, 0, 1);
        lookers(x, 0, 0, 0, 0, 0, 0, 0, 0);
        for (int k = 0; k < 192; k++) {
            x.look(k % 8, k / 8, answer);
        }
        return x;
    }

    /** Pictures 0, 2, 4 .. each with its mirror behind it, and two lookers. */
    static LooksByMany mirrored(int pairs) {
        LooksByMany x = new LooksByMany();
        for (int i = 0; i < pairs; i++) {
            x.mirror(x.picture(1, 0, 1, false));
        }
        lookers(x, 0, 0);
        return x;
    }

    /** So many things of weight 1, and questions from 0 on. */
    static LooksByMany things(int n, int... questions) {
        LooksByMany x = new LooksByMany();
        x.things(n);
        for (int k = 0; k < questions.length; k++) {
            x.question(k, questions[k]);
        }
        return x;
    }

    /** Pictures and looks that change until the 39th round; the 40th changes nothing. */
    static LooksByMany settledByForty() {
        LooksByMany x = new LooksByMany();
        x.picture(0, 0, 0, false);
        x.picture(1, 0, 0, true);
        x.picture(0, 0, 0, false);
        x.looker(0);
        looks(x, 0, 2, 0, 0);
        return x;
    }

    /** Pictures and looks that still change in the 40th round; a 41st would change nothing. */
    static LooksByMany settledByFortyOne() {
        LooksByMany x = new LooksByMany();
        x.picture(1, 0, 0, false);
        x.picture(2, 0, 0, true);
        x.picture(0, 0, 0, false);
        x.looker(0);
        looks(x, 0, 3, 3, 1);
        return x;
    }

    static long after(long seed) {
        return (seed * 1103515245L + 12345L) % (1L << 31);
    }

    static int drawOf(long seed) {
        return (int) (seed / 65536 % 100);
    }

    /** The least seed whose next draws are just these. */
    static int seedGiving(int... draws) {
        for (int v = 0; v < Integer.MAX_VALUE; v++) {
            long seed = v;
            boolean fits = true;
            for (int i = 0; i < draws.length && fits; i++) {
                seed = after(seed);
                fits = drawOf(seed) == draws[i];
            }
            if (fits) {
                return v;
            }
        }
        throw new IllegalStateException("no seed gives these draws");
    }

    /** What the seed is after n draws. */
    static long seedAfter(int v, int n) {
        long seed = v;
        for (int i = 0; i < n; i++) {
            seed = after(seed);
        }
        return seed;
    }
}
