import java.util.ArrayList;
import java.util.List;
import java.util.Random;

/** Long runs of calls, chosen by fixed seeds, on the class and on a plain model of the document. */
public final class ModelTest {
    private static final int CALLS = 512;
    private static final int RUNS = 3000;
    private static final int[] EDGES = {
        Integer.MIN_VALUE, -2, -1, 0, 1, 2, 499, 500, 501, 1999, 2000, 2001, 3000, 3001, 20000,
        1113611, 1113612, 1114111, 1114112, Integer.MAX_VALUE
    };

    /** The document's words over lists, as slow and as plain as can be. */
    private static final class Model {
        private final List<List<Integer>> rows = new ArrayList<>();
        private List<Integer> draft = new ArrayList<>();

        private boolean has(int k) {
            return k >= 1 && k <= rows.size();
        }

        private List<Integer> row(int k) {
            return rows.get(k - 1);
        }

        private int characters() {
            int sum = 0;
            for (List<Integer> row : rows) {
                sum += row.size();
            }
            return sum;
        }

        int write(int c, int many) {
            if (many < 0 || many > 500 || c < 0 || (long) c + many > 1114111 || draft.size() + many + 1 > 2000) {
                return -1;
            }
            for (int i = 0; i <= many; i++) {
                draft.add(c + i);
            }
            return draft.size();
        }

        int cut(int n) {
            if (n < 0 || n > draft.size()) {
                return -1;
            }
            int had = draft.size();
            draft = new ArrayList<>(draft.subList(0, n));
            return had;
        }

        private int numberOf(List<Integer> row) {
            int at = rows.indexOf(row);
            if (at >= 0) {
                return at + 1;
            }
            if (rows.size() == 3000 || characters() + row.size() > 20000) {
                return -1;
            }
            rows.add(new ArrayList<>(row));
            return rows.size();
        }

        int number() {
            int k = numberOf(draft);
            if (k > 0) {
                draft = new ArrayList<>();
            }
            return k;
        }

        int isKnown() {
            return rows.contains(draft) ? 1 : 0;
        }

        int take(int k) {
            if (!has(k) || draft.size() + row(k).size() > 2000) {
                return -1;
            }
            draft.addAll(row(k));
            return draft.size();
        }

        int length(int k) {
            return has(k) ? row(k).size() : -1;
        }

        int sign(int k, int i) {
            return has(k) && i >= 0 && i < row(k).size() ? row(k).get(i) : -1;
        }

        private static int order(List<Integer> a, List<Integer> b) {
            for (int i = 0; ; i++) {
                if (i == a.size() || i == b.size()) {
                    return Integer.signum(a.size() - b.size());
                }
                if (!a.get(i).equals(b.get(i))) {
                    return a.get(i) < b.get(i) ? -1 : 1;
                }
            }
        }

        int compare(int a, int b) {
            return has(a) && has(b) ? order(row(a), row(b)) : -2;
        }

        int colon(int k) {
            if (!has(k)) {
                return -2;
            }
            int at = row(k).indexOf(58);
            if (at < 0) {
                return 0;
            }
            if (at == 0 || at != row(k).lastIndexOf(58) || at + 1 == row(k).size()) {
                return -1;
            }
            return isStart(row(k).get(at + 1)) ? at : -1;
        }

        private static boolean isStart(int c) {
            if (c < 128) {
                return Character.isLetter(c) || c == ':' || c == '_';
            }
            boolean isBetween = c < 192 || c == 215 || c == 247 || c > 767 && c < 880 || c == 894
                || c > 8191 && c < 8204 || c > 8205 && c < 8304 || c > 8591 && c < 11264
                || c > 12271 && c < 12289 || c > 55295 && c < 63744 || c > 64975 && c < 65008
                || c > 65533 && c < 65536 || c > 983039;
            return !isBetween;
        }

        int part(int k, int i, int n) {
            if (!has(k) || i < 0 || n < 0 || (long) i + n > row(k).size()) {
                return -1;
            }
            return numberOf(row(k).subList(i, i + n));
        }

        int next(int k) {
            if (!has(k)) {
                return -1;
            }
            List<List<Integer>> sorted = new ArrayList<>(rows);
            sorted.sort(Model::order);
            int at = sorted.indexOf(row(k)) + 1;
            return at == sorted.size() ? 0 : rows.indexOf(sorted.get(at)) + 1;
        }

        int clear() {
            int had = rows.size();
            rows.clear();
            return had;
        }
    }

    private final Random random;
    private final boolean isLong;
    private final NameNumbers x = new NameNumbers();
    private final Model model = new Model();

    private ModelTest(int seed) {
        random = new Random(seed);
        isLong = seed % 3 == 0;
    }

    private int edge() {
        return EDGES[random.nextInt(EDGES.length)];
    }

    /** Mostly from 0 to just beyond most, at times anything. */
    private int near(int most) {
        return random.nextInt(25) == 0 ? edge() : random.nextInt(most + 2);
    }

    private int row() {
        return near(model.rows.size());
    }

    private int character() {
        int[] some = {'a', 'a', 'b', 'c', 58, 58, '1', 192, 191, 983039, 983040};
        return some[random.nextInt(some.length)];
    }

    /** A wrong answer as text, or null. */
    private static String held(String call, int got, int want) {
        return got == want ? null : call + " answered " + got + ", due is " + want;
    }

    private String write() {
        int c = random.nextInt(30) == 0 ? edge() : character();
        int many = random.nextInt(30) == 0 ? edge() : isLong ? random.nextInt(501) : 0;
        return held("write(" + c + ", " + many + ")", x.write(c, many), model.write(c, many));
    }

    private String part() {
        int k = row();
        int length = Math.max(0, model.length(k));
        int i = near(length);
        int n = near(Math.max(0, length - Math.max(0, Math.min(i, length))));
        return held("part(" + k + ", " + i + ", " + n + ")", x.part(k, i, n), model.part(k, i, n));
    }

    private String sign() {
        int k = row();
        int i = near(Math.max(0, model.length(k)));
        return held("sign(" + k + ", " + i + ")", x.sign(k, i), model.sign(k, i));
    }

    private String compare() {
        int a = row();
        int b = row();
        return held("compare(" + a + ", " + b + ")", x.compare(a, b), model.compare(a, b));
    }

    private String oneOfRow(int which) {
        int k = row();
        switch (which) {
            case 0: return held("take(" + k + ")", x.take(k), model.take(k));
            case 1: return held("length(" + k + ")", x.length(k), model.length(k));
            case 2: return held("colon(" + k + ")", x.colon(k), model.colon(k));
            default: return held("next(" + k + ")", x.next(k), model.next(k));
        }
    }

    private String cut() {
        int n = near(model.draft.size());
        return held("cut(" + n + ")", x.cut(n), model.cut(n));
    }

    private String call() {
        int which = random.nextInt(100);
        if (which < 30) return write();
        if (which < 45) return held("number()", x.number(), model.number());
        if (which < 50) return held("isKnown()", x.isKnown() ? 1 : 0, model.isKnown());
        if (which < 55) return cut();
        if (which < 60) return oneOfRow(0);
        if (which < 63) return oneOfRow(1);
        if (which < 71) return oneOfRow(2);
        if (which < 79) return oneOfRow(3);
        if (which < 84) return sign();
        if (which < 89) return compare();
        if (which < 97) return part();
        if (which < 99) return held("rows()", x.rows(), model.rows.size());
        return random.nextInt(4) == 0 ? held("clear()", x.clear(), model.clear()) : null;
    }

    public static void main(String[] args) {
        int wrong = 0;
        for (int seed = 0; seed < RUNS; seed++) {
            ModelTest run = new ModelTest(seed);
            for (int i = 0; i < CALLS; i++) {
                String fault = run.call();
                if (fault != null) {
                    wrong++;
                    System.out.println("run " + seed + ", call " + i + ": " + fault);
                    break;
                }
            }
        }
        System.out.println(RUNS - wrong + " passed, " + wrong + " failed");
        if (wrong != 0) {
            System.exit(1);
        }
    }
}
