import java.math.BigInteger;
import java.util.ArrayList;
import java.util.Arrays;
import java.util.Comparator;
import java.util.HashMap;
import java.util.List;
import java.util.Map;
import java.util.regex.Matcher;
import java.util.regex.Pattern;

/**
 * The document told once more, as plainly as the Java library lets it be told and with no care for speed:
 * ModelTest holds the class against it.
 */
final class Model {
    static final int NONE = -1, UNKNOWN = -1001, OUTSIDE = -1002, NOT = -1003, FULL = -1004;
    private static final List<String> WORDS =
            List.of("sharp", "far", "lean", "tire", "line", "most", "patience", "sure");
    private static final int[][] BOUNDS =
            {{0, 100}, {0, 100}, {0, 100}, {0, 99}, {34, 99}, {1, 8}, {1, 9}, {34, 99}};
    private static final List<Integer> AT_FIRST = List.of(90, 60, 30, 5, 90, 8, 3, 95);
    private static final Pattern TOKEN = Pattern.compile("[a-z]+|[0-9]+|[^ ]", Pattern.DOTALL);

    private record Picture(int kind, int far, int depth, boolean known, int original) {
    }

    private record Look(int looker, int picture, int answer) {
    }

    private record Fault(int place, int number) {
    }

    private record Plan(int asks, int first, int depth) {
    }

    private final List<Picture> pictures = new ArrayList<>();
    private final List<Integer> lookers = new ArrayList<>();
    private final List<Look> looks = new ArrayList<>();
    private List<Integer> laws = AT_FIRST;
    private String text = "";
    private int faultPlace = NONE;
    private BigInteger seed = BigInteger.ZERO;
    private final Map<Integer, int[]> odds = new HashMap<>();
    private final Map<Integer, int[][]> tables = new HashMap<>();
    private int[] sky = {334, 333, 333};
    private int rounds;
    private int[] weights = {1, 1};
    private int[] questions = new int[6];

    int picture(int kind, int far, int depth, boolean known) {
        if (kind < 0 || kind > 2 || far < 0 || far > 1 || depth < 0 || depth > 9) {
            return OUTSIDE;
        }
        return hang(new Picture(kind, far, depth, known, NONE));
    }

    private int hang(Picture p) {
        if (pictures.size() == 24) {
            return FULL;
        }
        pictures.add(p);
        return pictures.size() - 1;
    }

    int mirror(int p) {
        if (noPicture(p)) {
            return UNKNOWN;
        }
        Picture of = pictures.get(p);
        if (of.original != NONE) {
            return NOT;
        }
        return hang(new Picture(new int[] {0, 2, 1}[of.kind], of.far, of.depth, false, p));
    }

    int looker(int sort) {
        if (sort < 0 || sort > 5) {
            return OUTSIDE;
        }
        if (lookers.size() == 8) {
            return FULL;
        }
        lookers.add(sort);
        return lookers.size() - 1;
    }

    int feed(int n, long bytes) {
        if (n < 1 || n > 8) {
            return OUTSIDE;
        }
        if (text.length() + n > 160) {
            return FULL;
        }
        StringBuilder tail = new StringBuilder();
        for (int i = 0; i < n; i++) {
            tail.insert(0, (char) (bytes >> 8 * i & 255));
        }
        text += tail;
        return text.length();
    }

    /** All faults up to the first token that cannot stand where it stands; of these the first byte's least. */
    int read() {
        Map<Integer, Integer> told = new HashMap<>();
        List<Fault> faults = new ArrayList<>();
        Matcher tokens = TOKEN.matcher(text);
        int state = 0;
        int law = NONE;
        while (tokens.find()) {
            String token = tokens.group();
            if (state == 0 && WORDS.contains(token)) {
                law = WORDS.indexOf(token);
                if (told.containsKey(law)) {
                    faults.add(new Fault(tokens.start(), 3));
                }
                told.put(law, 0);
            } else if (state == 1 && token.matches("[0-9]+")) {
                boolean fits = token.length() <= 3 && Integer.parseInt(token) >= BOUNDS[law][0]
                        && Integer.parseInt(token) <= BOUNDS[law][1];
                if (fits) {
                    told.put(law, Integer.parseInt(token));
                } else {
                    faults.add(new Fault(tokens.start(), 2));
                }
            } else if (state != 2 || !token.equals(";")) {
                faults.add(new Fault(tokens.start(), 1));
                break;
            }
            state = (state + 1) % 3;
        }
        if (state != 0) {
            faults.add(new Fault(text.length(), 1));
        }
        text = "";
        faults.sort(Comparator.comparingInt(Fault::place).thenComparingInt(Fault::number));
        faultPlace = faults.isEmpty() ? NONE : faults.get(0).place;
        if (!faults.isEmpty()) {
            return -10 - faults.get(0).number;
        }
        laws = new ArrayList<>(AT_FIRST);
        told.forEach((which, value) -> laws.set(which, value));
        return told.size();
    }

    int fault() {
        return faultPlace;
    }

    int law(int what) {
        return what < 0 || what > 7 ? OUTSIDE : laws.get(what);
    }

    private int law(String word) {
        return laws.get(WORDS.indexOf(word));
    }

    int count(int what) {
        return switch (what) {
            case 0 -> pictures.size();
            case 1 -> lookers.size();
            case 2 -> looks.size();
            case 3 -> (int) pictures.stream().filter(Picture::known).count();
            case 4 -> (int) pictures.stream().filter(p -> p.original != NONE).count();
            case 5 -> sum(pictures.size(), p -> isDone(p) ? 1 : 0);
            case 6 -> text.length();
            case 7 -> sum(lookers.size(), this::stays);
            case 8 -> rounds;
            default -> OUTSIDE;
        };
    }

    int told(int p, int what) {
        if (noPicture(p)) {
            return UNKNOWN;
        }
        Picture it = pictures.get(p);
        return switch (what) {
            case 0 -> it.kind;
            case 1 -> it.far;
            case 2 -> it.depth;
            case 3 -> it.known ? 1 : 0;
            case 4 -> it.original;
            case 5 -> at(p).size();
            case 6 -> greens(p);
            case 7 -> isDone(p) ? 1 : 0;
            default -> OUTSIDE;
        };
    }

    int seed(int v) {
        if (v < 0) {
            return OUTSIDE;
        }
        int before = seed.intValueExact();
        seed = BigInteger.valueOf(v);
        return before;
    }

    int look(int l, int p, int answer) {
        if (noLooker(l) || noPicture(p)) {
            return UNKNOWN;
        }
        if (answer < 0 || answer > 3) {
            return OUTSIDE;
        }
        if (answer(l, p) != NONE) {
            return NOT;
        }
        if (looks.size() == 200) {
            return FULL;
        }
        looks.add(new Look(l, p, answer));
        return looks.size() - 1;
    }

    int says(int l, int p) {
        if (noLooker(l) || noPicture(p)) {
            return UNKNOWN;
        }
        if (answer(l, p) != NONE) {
            return NOT;
        }
        if (looks.size() == 200) {
            return FULL;
        }
        int said = said(lookers.get(l), pictures.get(p), by(l).size());
        looks.add(new Look(l, p, said));
        return said;
    }

    private int draw() {
        seed = seed.multiply(BigInteger.valueOf(1103515245)).add(BigInteger.valueOf(12345)).mod(BigInteger.TWO.pow(31));
        return seed.divide(BigInteger.valueOf(65536)).mod(BigInteger.valueOf(100)).intValueExact();
    }

    private int said(int sort, Picture p, int looksBefore) {
        int eye = p.far == 1 ? law("far") : law("sharp");
        switch (sort) {
            case 2:
                eye = Math.max(0, eye - law("tire") * looksBefore);
                break;
            case 3:
                return draw() % 3;
            case 4:
                eye = p.depth <= 4 ? 100 : 34;
                break;
            case 5:
                if (p.depth >= 8) {
                    return 3;
                }
                break;
            default:
                break;
        }
        int seen = draw() < eye ? p.kind : p.far == 1 ? 0 : draw() % 3;
        return sort == 1 && seen == 2 && draw() < law("lean") ? 1 : seen;
    }

    int about(int k, int what) {
        if (k < 0 || k >= looks.size()) {
            return UNKNOWN;
        }
        Look it = looks.get(k);
        return switch (what) {
            case 0 -> it.looker;
            case 1 -> it.picture;
            case 2 -> it.answer;
            case 3 -> counting(it.picture).contains(it) ? 1 : 0;
            default -> OUTSIDE;
        };
    }

    int next(int l, int rule) {
        if (noLooker(l)) {
            return UNKNOWN;
        }
        if (rule < 0 || rule > 2) {
            return OUTSIDE;
        }
        List<Integer> open = new ArrayList<>();
        for (int p = 0; p < pictures.size(); p++) {
            if (!isDone(p) && answer(l, p) == NONE) {
                open.add(p);
            }
        }
        Comparator<Integer> order = Comparator.comparingInt(p -> at(p).size());
        if (rule == 1) {
            order = order.thenComparingInt(p -> greatest(p));
        }
        if (rule == 2) {
            order = order.thenComparingInt(p -> -pictures.get(p).depth);
        }
        return open.stream().min(order.thenComparingInt(p -> p)).orElse(NONE);
    }

    int evening(int set, int n, int rule) {
        for (int bit = 0; bit < 32; bit++) {
            if ((set >> bit & 1) == 1 && bit >= lookers.size()) {
                return UNKNOWN;
            }
        }
        if (n < 1 || n > 20 || rule < 0 || rule > 2) {
            return OUTSIDE;
        }
        int made = 0;
        for (int turn = 0; turn < n; turn++) {
            for (int l = 0; l < lookers.size(); l++) {
                if ((set >> l & 1) == 1 && stays(l) == 1 && next(l, rule) != NONE && looks.size() < 200) {
                    says(l, next(l, rule));
                    made++;
                }
            }
        }
        return made;
    }

    int stays(int l) {
        if (noLooker(l)) {
            return UNKNOWN;
        }
        List<Look> his = by(l);
        int patience = law("patience");
        if (his.size() < patience) {
            return 1;
        }
        List<Look> last = his.subList(his.size() - patience, his.size());
        return last.stream().allMatch(k -> pictures.get(k.picture).far == 1) ? 0 : 1;
    }

    int reckon() {
        odds.clear();
        tables.clear();
        sky = new int[] {334, 333, 333};
        for (int p = 0; p < pictures.size(); p++) {
            odds.put(p, new int[] {334, 333, 333});
        }
        for (int l = 0; l < lookers.size(); l++) {
            tables.put(l, firstTable());
        }
        for (rounds = 0; rounds < 40;) {
            String before = state();
            round();
            rounds++;
            if (state().equals(before)) {
                return rounds;
            }
        }
        return -41;
    }

    private String state() {
        StringBuilder all = new StringBuilder(Arrays.toString(sky));
        odds.values().forEach(row -> all.append(Arrays.toString(row)));
        tables.values().forEach(rows -> all.append(Arrays.deepToString(rows)));
        return all.toString();
    }

    private void round() {
        for (int p = 0; p < pictures.size(); p++) {
            odds.put(p, oddsOf(p));
        }
        for (int l = 0; l < lookers.size(); l++) {
            for (int kind = 0; kind < 3; kind++) {
                learn(l, kind);
            }
        }
        int n = pictures.size();
        if (n > 0) {
            int[] cut = new int[3];
            for (int kind = 0; kind < 3; kind++) {
                int which = kind;
                cut[kind] = sum(n, p -> odds.get(p)[which]) / n;
            }
            cut[0] += 1000 - cut[0] - cut[1] - cut[2];
            for (int kind = 0; kind < 3; kind++) {
                sky[kind] = Math.max(1, cut[kind]);
            }
        }
    }

    private int[] oddsOf(int p) {
        int[] found = new int[3];
        if (pictures.get(p).known) {
            found[pictures.get(p).kind] = 1000;
            return found;
        }
        BigInteger[] chance = new BigInteger[3];
        BigInteger all = BigInteger.ZERO;
        for (int kind = 0; kind < 3; kind++) {
            chance[kind] = BigInteger.valueOf(sky[kind]);
            for (Look k : counting(p)) {
                chance[kind] = chance[kind].multiply(BigInteger.valueOf(tables.get(k.looker)[kind][k.answer]));
            }
            all = all.add(chance[kind]);
        }
        int left = 1000;
        int best = 0;
        for (int kind = 0; kind < 3; kind++) {
            found[kind] = chance[kind].multiply(BigInteger.valueOf(1000)).divide(all).intValueExact();
            left -= found[kind];
            best = found[kind] > found[best] ? kind : best;
        }
        found[best] += left;
        return found;
    }

    private void learn(int l, int kind) {
        int[] byAnswer = new int[4];
        for (Look k : looks) {
            if (k.looker == l && counting(k.picture).contains(k)) {
                byAnswer[k.answer] += odds.get(k.picture)[kind];
            }
        }
        int all = Arrays.stream(byAnswer).sum();
        for (int answer = 0; answer < 4 && all > 0; answer++) {
            tables.get(l)[kind][answer] = 1 + 96 * byAnswer[answer] / all;
        }
    }

    int odds(int p, int kind) {
        if (noPicture(p)) {
            return UNKNOWN;
        }
        return kind < 0 || kind > 2 ? OUTSIDE : odds.getOrDefault(p, new int[] {334, 333, 333})[kind];
    }

    int table(int l, int kind, int answer) {
        if (noLooker(l)) {
            return UNKNOWN;
        }
        if (kind < 0 || kind > 2 || answer < 0 || answer > 3) {
            return OUTSIDE;
        }
        return tables.getOrDefault(l, firstTable())[kind][answer];
    }

    private static int[][] firstTable() {
        return new int[][] {{70, 10, 10, 10}, {10, 70, 10, 10}, {10, 10, 70, 10}};
    }

    int sky(int kind) {
        return kind < 0 || kind > 2 ? OUTSIDE : sky[kind];
    }

    int far(int h, int kind) {
        if (h < 0 || h > 100 || kind < 0 || kind > 2) {
            return OUTSIDE;
        }
        int[] shares = new int[3];
        for (int p = 0; p < pictures.size(); p++) {
            for (int k = 0; k < 3; k++) {
                shares[k] += pictures.get(p).far == 1 ? odds(p, k) : 0;
            }
        }
        int each = shares[0] * h / 100;
        each = each / 2;
        shares[1] += each;
        shares[2] += each;
        shares[0] -= each + each;
        return shares[kind];
    }

    int lean(int l, int what) {
        if (noLooker(l)) {
            return UNKNOWN;
        }
        if (what < 0 || what > 1) {
            return OUTSIDE;
        }
        int pairs = 0;
        int leans = 0;
        for (Look a : by(l)) {
            for (Look b : by(l)) {
                boolean isPair = pictures.get(b.picture).original == a.picture;
                if (isPair && List.of(1, 2).contains(a.answer) && List.of(1, 2).contains(b.answer)) {
                    pairs++;
                    leans += a.answer != b.answer ? 0 : a.answer == 1 ? 1 : -1;
                }
            }
        }
        return what == 1 ? pairs : pairs == 0 ? NONE : 1000 + leans * 100 / pairs;
    }

    int agreed(int l, int m, int what) {
        if (noLooker(l) || noLooker(m) || l == m) {
            return UNKNOWN;
        }
        int alike = 0;
        int of = 0;
        for (Look a : by(l)) {
            for (Look b : by(m)) {
                if (a.picture == b.picture) {
                    of++;
                    alike += a.answer == b.answer ? 1 : 0;
                }
            }
        }
        return switch (what) {
            case 0 -> alike;
            case 1 -> of;
            case 2 -> of >= 5 && alike == of ? 1 : 0;
            default -> OUTSIDE;
        };
    }

    int green(int i) {
        if (i < 0) {
            return OUTSIDE;
        }
        List<Integer> order = new ArrayList<>();
        for (int p = 0; p < pictures.size(); p++) {
            if (greens(p) > 0) {
                order.add(p);
            }
        }
        order.sort(Comparator.<Integer>comparingInt(p -> -greens(p)).thenComparingInt(p -> p));
        return i < order.size() ? order.get(i) : NONE;
    }

    int given(int what) {
        if (what < 0 || what > 2) {
            return OUTSIDE;
        }
        int[] found = new int[3];
        for (int p = 0; p < pictures.size(); p++) {
            int which = p;
            List<Look> sure = at(p).stream().filter(k -> lookers.get(k.looker) == 4 && k.answer < 3
                    && odds(which, k.answer) >= law("sure") * 10).toList();
            if (!sure.isEmpty()) {
                found[0]++;
                found[1] += (int) at(p).stream().filter(k -> lookers.get(k.looker) != 4).count();
                found[2] += sure.stream().anyMatch(k -> k.answer != pictures.get(which).kind) ? 1 : 0;
            }
        }
        return found[what];
    }

    int things(int n) {
        if (n < 2 || n > 8) {
            return OUTSIDE;
        }
        weights = new int[n];
        Arrays.fill(weights, 1);
        questions = new int[6];
        return n;
    }

    int weight(int t, int v) {
        if (t < 0 || t >= weights.length || v < 1 || v > 99) {
            return OUTSIDE;
        }
        int before = weights[t];
        weights[t] = v;
        return before;
    }

    int question(int k, int set) {
        if (k < 0 || k > 5 || set < 0 || set >= 1 << weights.length) {
            return OUTSIDE;
        }
        int before = questions[k];
        questions[k] = set;
        return before;
    }

    int tree(int set, int what) {
        if (set <= 0 || set >= 1 << weights.length || what < 0 || what > 2) {
            return OUTSIDE;
        }
        Plan best = plan(set);
        return what == 0 ? best.asks : what == 1 ? best.first : best.depth;
    }

    private Plan plan(int set) {
        Plan best = new Plan(0, NONE, 0);
        for (int k = 0; k < 6; k++) {
            int yes = set & questions[k];
            int no = set - yes;
            if (yes != 0 && no != 0) {
                Plan ifYes = plan(yes);
                Plan ifNo = plan(no);
                int asks = ifYes.asks + ifNo.asks + sum(weights.length, t -> (set >> t & 1) * weights[t]);
                if (best.first == NONE || asks < best.asks) {
                    best = new Plan(asks, k, 1 + Math.max(ifYes.depth, ifNo.depth));
                }
            }
        }
        return best;
    }

    int wrong(int t) {
        if (t < 0 || t >= weights.length) {
            return OUTSIDE;
        }
        int all = (1 << weights.length) - 1;
        int first = plan(all).first;
        return first == NONE ? 0 : end(all - side(all, first, t), t);
    }

    private int end(int set, int t) {
        int k = plan(set).first;
        return k == NONE ? set : end(side(set, k, t), t);
    }

    private int side(int set, int k, int t) {
        int yes = set & questions[k];
        return (questions[k] >> t & 1) == 1 ? yes : set - yes;
    }

    private boolean noPicture(int p) {
        return p < 0 || p >= pictures.size();
    }

    private boolean noLooker(int l) {
        return l < 0 || l >= lookers.size();
    }

    private List<Look> at(int p) {
        return looks.stream().filter(k -> k.picture == p).toList();
    }

    private List<Look> by(int l) {
        return looks.stream().filter(k -> k.looker == l).toList();
    }

    private List<Look> counting(int p) {
        return looks.stream().filter(k -> k.picture == p).limit(6).toList();
    }

    private int answer(int l, int p) {
        return looks.stream().filter(k -> k.looker == l && k.picture == p).mapToInt(Look::answer).findAny().orElse(NONE);
    }

    private int greens(int p) {
        return (int) at(p).stream().filter(k -> k.answer == 3).count();
    }

    private int greatest(int p) {
        return Math.max(odds(p, 0), Math.max(odds(p, 1), odds(p, 2)));
    }

    private boolean isDone(int p) {
        return greatest(p) >= law("line") * 10 || at(p).size() >= law("most");
    }

    private static int sum(int n, java.util.function.IntUnaryOperator of) {
        int all = 0;
        for (int i = 0; i < n; i++) {
            all += of.applyAsInt(i);
        }
        return all;
    }
}
