import java.util.ArrayList;
import java.util.HashMap;
import java.util.LinkedHashMap;
import java.util.List;
import java.util.Map;

/**
 * Long runs of mixed calls, the same each time, each answer held against a second,
 * plain reading of the document that shares nothing with the program.
 */
public final class ModelRuns {
    private static final int RUNS = 4000;
    private static final int CALLS = 512;
    private static final int CALLS_THAT_ASK_AT_THE_END = 100;
    private static final int[] UNITS = {65, 66, 97, 98, 48, 49, 32, 33, 0, 300, 1632, 1633, 55296, 55297, 56320, 56321,
        56319, 57343, 65281, 65313, 12288, 65533, 65535};
    private static final int[] EXTRA = {65536, 65537, 66560, 1114111, 1114102, 1114103, 1114112, -1, -2,
        Integer.MAX_VALUE, Integer.MIN_VALUE, 127, 128, 57};

    private static long state = 20240601L;

    private static int next(int bound) {
        state = state * 6364136223846793005L + 1442695040888963407L;
        return (int) Math.floorMod(state >>> 33, (long) bound);
    }

    private static int anySign() {
        return next(6) == 0 ? EXTRA[next(EXTRA.length)] : UNITS[next(UNITS.length)];
    }

    private static int goodSign() {
        return next(6) == 0 ? EXTRA[next(5)] : UNITS[next(UNITS.length)];
    }

    private static int sign(boolean wild) {
        return wild ? anySign() : goodSign();
    }

    private static int place(boolean wild) {
        return wild ? next(14) - 3 : next(8);
    }

    /** What stands at one place of THE CHAIN. */
    private static final class Stage {
        int kind;
        int rule;
        int met;
        int grown;
    }

    private static final class Out {
        int sign;
        int begin;
        int end;

        Out(int sign, int begin, int end) {
            this.sign = sign;
            this.begin = begin;
            this.end = end;
        }
    }

    /** The second reading. */
    private static final class Model {
        List<Integer> draft = new ArrayList<>();
        int mark = 0;
        List<Out> text = new ArrayList<>();
        Map<Integer, List<Integer>> folds = new HashMap<>();
        Map<Long, Integer> pairs = new HashMap<>();
        List<Integer> zeros = new ArrayList<>();
        List<int[]> ranges = new ArrayList<>();
        Map<List<Integer>, List<Integer>> strings = new LinkedHashMap<>();
        Stage[] chain = new Stage[8];
        List<Out> latest = new ArrayList<>();

        static boolean good(int sign) {
            return Character.isValidCodePoint(sign);
        }

        static List<Out> read(List<Integer> units) {
            StringBuilder all = new StringBuilder();
            for (int u : units) {
                all.append((char) u);
            }
            List<Out> row = new ArrayList<>();
            for (int i = 0; i < all.length(); ) {
                int sign = all.codePointAt(i);
                int end = i + Character.charCount(sign);
                row.add(new Out(sign, i, end));
                i = end;
            }
            return row;
        }

        static List<Integer> signs(List<Out> row) {
            List<Integer> all = new ArrayList<>();
            for (Out o : row) {
                all.add(o.sign);
            }
            return all;
        }

        int unit(int u) {
            if (draft.size() == 100) {
                return -2;
            }
            draft.add(u & 0xFFFF);
            return draft.size();
        }

        int setMark() {
            return mark = draft.size();
        }

        void empty() {
            draft.clear();
            mark = 0;
        }

        int setText() {
            text = read(draft);
            empty();
            return text.size();
        }

        int string() {
            if (mark == 0) {
                return -1;
            }
            List<Integer> before = signs(read(draft.subList(0, mark)));
            if (!strings.containsKey(before) && strings.size() == 20) {
                return -2;
            }
            strings.put(before, signs(read(draft.subList(mark, draft.size()))));
            empty();
            return strings.size();
        }

        int fold(int sign, int a, int b, int c) {
            List<Integer> row = new ArrayList<>();
            boolean ended = false;
            if (!good(sign)) {
                return -1;
            }
            for (int part : new int[] {a, b, c}) {
                if (part == -1) {
                    ended = true;
                } else if (ended || !good(part)) {
                    return -1;
                } else {
                    row.add(part);
                }
            }
            if (!folds.containsKey(sign) && folds.size() == 40) {
                return -2;
            }
            folds.put(sign, row);
            return folds.size();
        }

        int pair(int first, int second, int sign) {
            if (!good(first) || !good(second) || !good(sign)) {
                return -1;
            }
            long key = first * 2000000L + second;
            if (!pairs.containsKey(key) && pairs.size() == 20) {
                return -2;
            }
            pairs.put(key, sign);
            return pairs.size();
        }

        int zero(int sign) {
            if (!good(sign) || !good(sign + 9)) {
                return -1;
            }
            return zeros.size() == 10 ? -2 : zeros.add(sign) ? zeros.size() : 0;
        }

        int range(int first, int last) {
            if (!good(first) || !good(last) || last < first) {
                return -1;
            }
            return ranges.size() == 8 ? -2 : ranges.add(new int[] {first, last}) ? ranges.size() : 0;
        }

        int filter(int place, int kind) {
            if (kind < 0 || kind > 6) {
                return -1;
            }
            if (place < 0 || place > 7) {
                return -13;
            }
            chain[place] = new Stage();
            chain[place].kind = kind;
            return 0;
        }

        int drop(int place) {
            if (place < 0 || place > 7) {
                return -13;
            }
            Stage was = chain[place];
            chain[place] = null;
            return was == null ? 0 : 1;
        }

        int rule(int place, int rule) {
            if (rule < 0 || rule > 2) {
                return -1;
            }
            if (place < 0 || place > 7) {
                return -13;
            }
            if (chain[place] == null) {
                return -11;
            }
            if (chain[place].kind != 5) {
                return -12;
            }
            int was = chain[place].rule;
            chain[place].rule = rule;
            return was;
        }

        int digit(int sign) {
            for (int zero : zeros) {
                for (int d = 0; d <= 9; d++) {
                    if (zero + d == sign) {
                        return d;
                    }
                }
            }
            return -9;
        }

        boolean inRange(int sign) {
            for (int[] range : ranges) {
                if (range[0] <= sign && sign <= range[1]) {
                    return true;
                }
            }
            return false;
        }

        static int units(List<Out> row) {
            int all = 0;
            for (Out o : row) {
                all += Character.charCount(o.sign);
            }
            return all;
        }

        int run() {
            List<Out> row = text;
            int[] met = new int[8];
            int[] grown = new int[8];
            for (int p = 0; p < 8; p++) {
                if (chain[p] != null) {
                    List<Out> after = new ArrayList<>();
                    met[p] = pass(chain[p], row, after);
                    grown[p] = units(after) - units(row);
                    if (after.size() > 300) {
                        return -3;
                    }
                    row = after;
                }
            }
            for (int p = 0; p < 8; p++) {
                if (chain[p] != null) {
                    chain[p].met = met[p];
                    chain[p].grown = grown[p];
                }
            }
            latest = row;
            return row.size();
        }

        int pass(Stage stage, List<Out> row, List<Out> after) {
            if (stage.kind == 1) {
                return compose(row, after);
            }
            if (stage.kind == 4) {
                return replace(row, after);
            }
            int met = 0;
            for (Out o : row) {
                List<Integer> becomes = single(stage, o.sign);
                if (becomes == null) {
                    after.add(o);
                } else {
                    met++;
                    for (int sign : becomes) {
                        after.add(new Out(sign, o.begin, o.end));
                    }
                }
            }
            return met;
        }

        /** What one SIGN becomes, or null: the FILTER does nothing to it. */
        List<Integer> single(Stage stage, int sign) {
            switch (stage.kind) {
                case 0:
                    return folds.get(sign);
                case 2:
                    return digit(sign) < 0 ? null : List.of(48 + digit(sign));
                case 3:
                    return inRange(sign) ? List.of() : null;
                case 5:
                    if (sign < 0xD800 || sign > 0xDFFF) {
                        return null;
                    }
                    return stage.rule == 0 ? List.of(sign) : stage.rule == 1 ? List.of(0xFFFD) : List.of();
                default:
                    if (sign == 0x3000) {
                        return List.of(0x20);
                    }
                    return sign >= 0xFF01 && sign <= 0xFF5E ? List.of(sign - 0xFEE0) : null;
            }
        }

        int compose(List<Out> row, List<Out> after) {
            int met = 0;
            for (Out o : row) {
                Out last = after.isEmpty() ? null : after.get(after.size() - 1);
                Integer one = last == null ? null : pairs.get(last.sign * 2000000L + o.sign);
                if (one == null) {
                    after.add(o);
                } else {
                    met++;
                    after.set(after.size() - 1, new Out(one, last.begin, o.end));
                }
            }
            return met;
        }

        int replace(List<Out> row, List<Out> after) {
            int met = 0;
            List<Integer> signs = signs(row);
            for (int i = 0; i < row.size(); ) {
                int length = row.size() - i;
                while (length > 0 && !strings.containsKey(signs.subList(i, i + length))) {
                    length--;
                }
                if (length == 0) {
                    after.add(row.get(i));
                    i++;
                } else {
                    met++;
                    for (int sign : strings.get(signs.subList(i, i + length))) {
                        after.add(new Out(sign, row.get(i).begin, row.get(i + length - 1).end));
                    }
                    i += length;
                }
            }
            return met;
        }

        boolean has(int i) {
            return i >= 0 && i < latest.size();
        }

        int signAt(int i) {
            return has(i) ? latest.get(i).sign : -13;
        }

        int place(int i, boolean end) {
            return !has(i) ? -13 : end ? latest.get(i).end : latest.get(i).begin;
        }

        int unitAt(int i) {
            StringBuilder all = new StringBuilder();
            for (Out o : latest) {
                all.appendCodePoint(o.sign);
            }
            return i >= 0 && i < all.length() ? all.charAt(i) : -13;
        }

        int broken(int i) {
            if (i < 0 || i > latest.size()) {
                return -13;
            }
            if (i == 0 || i == latest.size()) {
                return 1;
            }
            int left = kindOf(latest.get(i - 1).sign);
            int right = kindOf(latest.get(i).sign);
            return left != right || left == 0 || left == 4 ? 1 : 0;
        }

        static int kindOf(int sign) {
            return sign > 127 ? 1 : table(sign);
        }

        static int table(int i) {
            if (i < 0 || i > 127) {
                return -13;
            }
            if (Character.isLetter(i)) {
                return 1;
            }
            if (Character.isDigit(i)) {
                return 2;
            }
            return "\t\n\r ".indexOf(i) >= 0 ? 3 : i > 32 && i < 127 ? 4 : 0;
        }

        int met(int place) {
            return place < 0 || place > 7 ? -13 : chain[place] == null ? -11 : chain[place].met;
        }

        int grown(int place) {
            if (place < 0 || place > 7) {
                return -13;
            }
            return chain[place] == null ? -11 : chain[place].kind != 0 ? -12 : chain[place].grown;
        }

        int count(int what) {
            int filters = 0;
            for (Stage stage : chain) {
                filters += stage == null ? 0 : 1;
            }
            int[] all = {draft.size(), text.size(), folds.size(), pairs.size(), zeros.size(), ranges.size(),
                strings.size(), filters, latest.size()};
            return what < 0 || what >= all.length ? -1 : all[what];
        }
    }

    private static int wrong = 0;
    private static int refusedRuns = 0;
    private static int goodRuns = 0;
    private static int calls = 0;

    private static void due(int run, String call, int got, int want) {
        if (got != want && wrong++ < 20) {
            System.out.println("model run " + run + ", call " + calls + ": " + call + " answered " + got
                + ", due is " + want);
        }
    }

    /** One call on both, of the sort that the number tells. */
    private static void oneCall(int run, int sort, boolean wild, SignTables x, Model m) {
        calls++;
        switch (sort) {
            case 0: {
                int u = sign(wild);
                due(run, "unit(" + u + ")", x.unit(u), m.unit(u));
                break;
            }
            case 1:
                due(run, "mark()", x.mark(), m.setMark());
                break;
            case 2:
                due(run, "text()", x.text(), m.setText());
                break;
            case 3:
                due(run, "string()", x.string(), m.string());
                break;
            case 4: {
                int sign = sign(wild);
                int a = next(4) == 0 ? -1 : sign(wild);
                int b = a == -1 || next(3) == 0 ? -1 : sign(wild);
                int c = (b == -1 || next(3) == 0) && !wild ? -1 : sign(wild);
                due(run, "fold(" + sign + ", " + a + ", " + b + ", " + c + ")", x.fold(sign, a, b, c),
                    m.fold(sign, a, b, c));
                break;
            }
            case 5: {
                int first = sign(wild);
                int second = sign(wild);
                int one = sign(wild);
                due(run, "pair(" + first + ", " + second + ", " + one + ")", x.pair(first, second, one),
                    m.pair(first, second, one));
                break;
            }
            case 6: {
                int zero = sign(wild);
                due(run, "zero(" + zero + ")", x.zero(zero), m.zero(zero));
                break;
            }
            case 7: {
                int first = sign(wild);
                int last = next(2) == 0 ? first : sign(wild);
                due(run, "range(" + first + ", " + last + ")", x.range(first, last), m.range(first, last));
                break;
            }
            case 8: {
                int place = place(wild);
                int kind = wild ? next(11) - 2 : next(7);
                due(run, "filter(" + place + ", " + kind + ")", x.filter(place, kind), m.filter(place, kind));
                break;
            }
            case 9: {
                int place = place(wild);
                due(run, "drop(" + place + ")", x.drop(place), m.drop(place));
                break;
            }
            case 10: {
                int place = place(wild);
                int rule = wild ? next(7) - 2 : next(3);
                due(run, "rule(" + place + ", " + rule + ")", x.rule(place, rule), m.rule(place, rule));
                break;
            }
            case 11:
                due(run, "run()", x.run(), tally(m.run()));
                break;
            default: {
                int place = next(8);
                due(run, "filter(" + place + ", 0)", x.filter(place, 0), m.filter(place, 0));
                break;
            }
        }
    }

    private static int tally(int answer) {
        if (answer == -3) {
            refusedRuns++;
        } else {
            goodRuns++;
        }
        return answer;
    }

    /** One of the calls that only ask. */
    private static void oneQuestion(int run, SignTables x, Model m) {
        calls++;
        int i = next(10) == 0 ? EXTRA[next(EXTRA.length)] : next(m.latest.size() + 4) - 1;
        int place = next(10) == 0 ? EXTRA[next(EXTRA.length)] : next(10) - 1;
        switch (next(11)) {
            case 0:
                due(run, "sign(" + i + ")", x.sign(i), m.signAt(i));
                break;
            case 1:
                due(run, "place(" + i + ", false)", x.place(i, false), m.place(i, false));
                break;
            case 2:
                due(run, "place(" + i + ", true)", x.place(i, true), m.place(i, true));
                break;
            case 3:
                due(run, "unitAt(" + i + ")", x.unitAt(i), m.unitAt(i));
                break;
            case 4:
                due(run, "broken(" + i + ")", x.broken(i), m.broken(i));
                break;
            case 5:
                due(run, "met(" + place + ")", x.met(place), m.met(place));
                break;
            case 6:
                due(run, "grown(" + place + ")", x.grown(place), m.grown(place));
                break;
            case 7: {
                int sign = anySign();
                due(run, "digit(" + sign + ")", x.digit(sign), m.digit(sign));
                break;
            }
            case 8: {
                int sign = anySign();
                due(run, "table(" + sign + ")", x.table(sign), Model.table(sign));
                break;
            }
            case 9:
                due(run, "units()", x.units(), Model.units(m.latest));
                break;
            default:
                due(run, "count(" + place + ")", x.count(place), m.count(place));
                break;
        }
    }

    /** Which sort comes how often: some runs tell much, some have long texts, some many FILTERS. */
    private static int sortFor(int style) {
        int[][] styles = {
            {0, 0, 0, 0, 0, 0, 0, 1, 2, 3, 4, 5, 6, 7, 8, 8, 9, 10, 10, 11, 11, 11},
            {0, 0, 0, 0, 0, 0, 0, 0, 0, 0, 0, 0, 0, 0, 0, 0, 0, 0, 0, 0, 0, 0, 0, 0, 2, 4, 8, 11, 11, 12},
            {0, 0, 0, 1, 1, 3, 3, 0, 2, 8, 11, 11},
            {4, 4, 5, 5, 6, 7, 8, 8, 0, 0, 0, 2, 11}};
        int[] row = styles[style];
        return row[next(row.length)];
    }

    private static void oneRun(int run) {
        SignTables x = new SignTables();
        Model m = new Model();
        calls = 0;
        int style = run % 4;
        int[] few = {UNITS[next(UNITS.length)], UNITS[next(UNITS.length)]};
        if (style == 1) {
            calls++;
            due(run, "fold", x.fold(few[0], few[1], few[0], few[1]), m.fold(few[0], few[1], few[0], few[1]));
        }
        while (calls < CALLS && wrong < 20) {
            if (calls >= CALLS - CALLS_THAT_ASK_AT_THE_END || next(5) == 0) {
                oneQuestion(run, x, m);
            } else if (next(3) == 0) {
                calls++;
                int u = few[next(2)];
                due(run, "unit(" + u + ")", x.unit(u), m.unit(u));
            } else {
                oneCall(run, sortFor(style), next(12) == 0, x, m);
            }
        }
    }

    public static void main(String[] args) {
        for (int run = 1; run <= RUNS && wrong < 20; run++) {
            oneRun(run);
        }
        if (goodRuns < 1000 || refusedRuns < 300) {
            wrong++;
            System.out.println("too few runs were tried: " + goodRuns + " good, " + refusedRuns + " refused");
        }
        System.out.println(wrong == 0 ? RUNS + " runs as the model has them (" + goodRuns + " run() good, "
            + refusedRuns + " LONG)" : "the program and the model differ");
        if (wrong != 0) {
            System.exit(1);
        }
    }
}
