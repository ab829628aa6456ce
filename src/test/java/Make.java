import java.nio.charset.StandardCharsets;

/** What many tests need made: texts fed, laws read, looks told, seeds that give the draws asked for. */
final class Make {
    private Make() {
    }

    /** Feeds a text of signs 0 to 255 in pieces of at most eight bytes; answers what the last feed did. */
    static int text(LooksByMany x, String text) {
        byte[] bytes = text.getBytes(StandardCharsets.ISO_8859_1);
        int answer = x.count(6);
        for (int at = 0; at < bytes.length; at += 8) {
            int n = Math.min(8, bytes.length - at);
            long packed = 0;
            for (int i = 0; i < n; i++) {
                packed = packed << 8 | bytes[at + i] & 255;
            }
            answer = x.feed(n, packed);
        }
        return answer;
    }

    static int laws(LooksByMany x, String text) {
        text(x, text);
        return x.read();
    }

    static void pictures(LooksByMany x, int n, int kind, int far, int depth) {
        for (int i = 0; i < n; i++) {
            x.picture(kind, far, depth, false);
        }
    }

    static void lookers(LooksByMany x, int... sorts) {
        for (int sort : sorts) {
            x.looker(sort);
        }
    }

    /** Looks of one looker at the pictures 0, 1, 2 .. with these answers; -1 leaves one out. */
    static void looks(LooksByMany x, int l, int... answers) {
        for (int p = 0; p < answers.length; p++) {
            if (answers[p] >= 0) {
                x.look(l, p, answers[p]);
            }
        }
    }

    static long after(long seed) {
        return (seed * 1103515245L + 12345L) % (1L << 31);
    }

    static int drawOf(long seed) {
        return (int) (seed / 65536 % 100);
    }

    /** The least seed whose next draws are just these. */
    static int seedGiving(int... draws) {
        for (int v = 0; v < Integer.MAX_VALUE; v++) {
            long seed = v;
            boolean fits = true;
            for (int i = 0; i < draws.length && fits; i++) {
                seed = after(seed);
                fits = drawOf(seed) == draws[i];
            }
            if (fits) {
                return v;
            }
        }
        throw new IllegalStateException("no seed gives these draws");
    }

    /** What the seed is after n draws. */
    static long seedAfter(int v, int n) {
        long seed = v;
        for (int i = 0; i < n; i++) {
            seed = after(seed);
        }
        return seed;
    }
}
