import java.util.Arrays;

/** Filters of signs, one behind the other; ../shared/DOC.md says what each call promises. */
public final class SignTables {
    public static final int BAD = -1, FULL = -2, LONG = -3, NULL = -11, CAST = -12, INDEX = -13;

    private static final int DRAFT_LIMIT = 100;
    private static final int FOLD_LIMIT = 40;
    private static final int PAIR_LIMIT = 20;
    private static final int ZERO_LIMIT = 10;
    private static final int RANGE_LIMIT = 8;
    private static final int STRING_LIMIT = 20;
    private static final int CHAIN_LIMIT = 8;
    private static final int ROW_LIMIT = 300;

    private static final int LAST_SIGN = 1114111;
    private static final int FIRST_HIGH = 55296;
    private static final int FIRST_LOW = 56320;
    private static final int LAST_LOW = 57343;
    private static final int FIRST_WIDE_UNIT = 65536;
    private static final int REPLACEMENT_SIGN = 65533;

    private static final int FOLDING = 0;
    private static final int COMPOSING = 1;
    private static final int DIGITS = 2;
    private static final int DROPPING = 3;
    private static final int REPLACING = 4;
    private static final int HALVES = 5;
    private static final int WIDTHS = 6;

    private static final int KEEP = 0;
    private static final int REPLACE = 1;
    private static final int GO = 2;

    private static final int NO_SIGN = -1;
    private static final int NO_SLOT = -1;
    private static final int NO_DIGIT = -9;

    private final int[] draft = new int[DRAFT_LIMIT];
    private int draftSize = 0;
    private int markAt = 0;

    private final FoldTable folds = new FoldTable();
    private final PairTable pairs = new PairTable();
    private final ZeroTable zeros = new ZeroTable();
    private final RangeTable ranges = new RangeTable();
    private final StringTable strings = new StringTable();

    private final Filter[] chain = new Filter[CHAIN_LIMIT];
    private final SignRow source = new SignRow();

    // The spare rows are made once and change places with the latest one, so
    // that no run makes rows and a refused run leaves the latest one whole.
    private SignRow latest = new SignRow();
    private SignRow spareOne = new SignRow();
    private SignRow spareTwo = new SignRow();

    public SignTables() {
    }

    public int unit(int u) {
        if (draftSize >= DRAFT_LIMIT) {
            return FULL;
        }
        draft[draftSize] = u & 65535;
        draftSize++;
        return draftSize;
    }

    public int mark() {
        markAt = draftSize;
        return markAt;
    }

    public int text() {
        readSigns(0, draftSize, source);
        emptyDraft();
        return source.size();
    }

    public int string() {
        if (markAt <= 0) {
            return BAD;
        }
        readSigns(0, markAt, spareOne);
        readSigns(markAt, draftSize, spareTwo);
        if (!strings.put(spareOne, spareTwo)) {
            return FULL;
        }
        emptyDraft();
        return strings.size();
    }

    public int fold(int sign, int a, int b, int c) {
        if (!isSign(sign) || !isFoldRow(a, b, c)) {
            return BAD;
        }
        return folds.put(sign, a, b, c) ? folds.size() : FULL;
    }

    public int pair(int first, int second, int sign) {
        if (!isSign(first) || !isSign(second) || !isSign(sign)) {
            return BAD;
        }
        return pairs.put(first, second, sign) ? pairs.size() : FULL;
    }

    public int zero(int sign) {
        if (!isSign(sign) || sign > LAST_SIGN - 9) {
            return BAD;
        }
        return zeros.add(sign) ? zeros.size() : FULL;
    }

    public int range(int first, int last) {
        if (!isSign(first) || !isSign(last) || last < first) {
            return BAD;
        }
        return ranges.add(first, last) ? ranges.size() : FULL;
    }

    public int filter(int place, int kind) {
        if (kind < FOLDING || kind > WIDTHS) {
            return BAD;
        }
        if (!isPlace(place)) {
            return INDEX;
        }
        chain[place] = new Filter(kind);
        return 0;
    }

    public int drop(int place) {
        if (!isPlace(place)) {
            return INDEX;
        }
        int was = chain[place] != null ? 1 : 0;
        chain[place] = null;
        return was;
    }

    public int rule(int place, int rule) {
        if (rule < KEEP || rule > GO) {
            return BAD;
        }
        if (!isPlace(place)) {
            return INDEX;
        }
        Filter filter = chain[place];
        if (filter == null) {
            return NULL;
        }
        if (filter.kind != HALVES) {
            return CAST;
        }
        int was = filter.halvesRule;
        filter.halvesRule = rule;
        return was;
    }

    public int run() {
        SignRow in = spareOne;
        SignRow out = spareTwo;
        in.copyFrom(source);
        for (int p = 0; p < CHAIN_LIMIT; p++) {
            Filter filter = chain[p];
            if (filter != null) {
                filter.beginRun();
                if (!passThrough(filter, in, out)) {
                    return LONG;
                }
                SignRow passed = out;
                out = in;
                in = passed;
            }
        }
        spareOne = latest;
        spareTwo = out;
        latest = in;
        settleFilters();
        return latest.size();
    }

    public int sign(int i) {
        return latest.has(i) ? latest.signAt(i) : INDEX;
    }

    public int place(int i, boolean end) {
        if (!latest.has(i)) {
            return INDEX;
        }
        return end ? latest.endAt(i) : latest.beginAt(i);
    }

    public int unitAt(int i) {
        if (i < 0) {
            return INDEX;
        }
        int ahead = 0;
        for (int s = 0; s < latest.size(); s++) {
            int sign = latest.signAt(s);
            int width = unitsOf(sign);
            if (i < ahead + width) {
                return unitOf(sign, i - ahead);
            }
            ahead += width;
        }
        return INDEX;
    }

    public int units() {
        int all = 0;
        for (int s = 0; s < latest.size(); s++) {
            all += unitsOf(latest.signAt(s));
        }
        return all;
    }

    public int broken(int i) {
        int size = latest.size();
        if (i < 0 || i > size) {
            return INDEX;
        }
        if (i == 0 || i == size) {
            return 1;
        }
        int left = classOf(latest.signAt(i - 1));
        int right = classOf(latest.signAt(i));
        return left != right || left == 0 || left == 4 ? 1 : 0;
    }

    public int met(int place) {
        if (!isPlace(place)) {
            return INDEX;
        }
        Filter filter = chain[place];
        return filter != null ? filter.settledMet : NULL;
    }

    public int grown(int place) {
        if (!isPlace(place)) {
            return INDEX;
        }
        Filter filter = chain[place];
        if (filter == null) {
            return NULL;
        }
        return filter.kind == FOLDING ? filter.settledGrown : CAST;
    }

    public int table(int i) {
        return i >= 0 && i <= 127 ? classOf(i) : INDEX;
    }

    public int digit(int sign) {
        return zeros.digitOf(sign);
    }

    public int count(int what) {
        switch (what) {
            case 0:
                return draftSize;
            case 1:
                return source.size();
            case 2:
                return folds.size();
            case 3:
                return pairs.size();
            case 4:
                return zeros.size();
            case 5:
                return ranges.size();
            case 6:
                return strings.size();
            case 7:
                return filtersInChain();
            case 8:
                return latest.size();
            default:
                return BAD;
        }
    }

    private static boolean isSign(int number) {
        return number >= 0 && number <= LAST_SIGN;
    }

    private static boolean isSignOrNone(int number) {
        return number == NO_SIGN || isSign(number);
    }

    private static boolean isFoldRow(int a, int b, int c) {
        if (!isSignOrNone(a) || !isSignOrNone(b) || !isSignOrNone(c)) {
            return false;
        }
        if (a == NO_SIGN && b != NO_SIGN) {
            return false;
        }
        return b != NO_SIGN || c == NO_SIGN;
    }

    private static boolean isPlace(int place) {
        return place >= 0 && place < CHAIN_LIMIT;
    }

    private static boolean isHigh(int number) {
        return number >= FIRST_HIGH && number < FIRST_LOW;
    }

    private static boolean isLow(int number) {
        return number >= FIRST_LOW && number <= LAST_LOW;
    }

    private static int unitsOf(int sign) {
        return sign >= FIRST_WIDE_UNIT ? 2 : 1;
    }

    private static int unitOf(int sign, int which) {
        if (sign < FIRST_WIDE_UNIT) {
            return sign;
        }
        int rest = sign - FIRST_WIDE_UNIT;
        return which == 0 ? FIRST_HIGH + (rest >> 10) : FIRST_LOW + (rest & 1023);
    }

    private static int classOf(int sign) {
        if (sign > 127) {
            return 1;
        }
        if (sign >= 65 && sign <= 90 || sign >= 97 && sign <= 122) {
            return 1;
        }
        if (sign >= 48 && sign <= 57) {
            return 2;
        }
        if (sign == 9 || sign == 10 || sign == 13 || sign == 32) {
            return 3;
        }
        return sign >= 33 && sign <= 126 ? 4 : 0;
    }

    private static int narrowed(int sign) {
        if (sign >= 65281 && sign <= 65374) {
            return sign - 65248;
        }
        return sign == 12288 ? 32 : NO_SIGN;
    }

    private void emptyDraft() {
        draftSize = 0;
        markAt = 0;
    }

    private void readSigns(int from, int to, SignRow row) {
        row.clear();
        int i = from;
        while (i >= 0 && i < to && i < DRAFT_LIMIT) {
            int sign = draft[i];
            int next = i + 1;
            if (isHigh(sign) && next < to && next < DRAFT_LIMIT && isLow(draft[next])) {
                sign = FIRST_WIDE_UNIT + 1024 * (sign - FIRST_HIGH) + draft[next] - FIRST_LOW;
                next++;
            }
            row.add(sign, i, next);
            i = next;
        }
    }

    private int filtersInChain() {
        int filters = 0;
        for (int p = 0; p < CHAIN_LIMIT; p++) {
            if (chain[p] != null) {
                filters++;
            }
        }
        return filters;
    }

    private void settleFilters() {
        for (int p = 0; p < CHAIN_LIMIT; p++) {
            Filter filter = chain[p];
            if (filter != null) {
                filter.settleRun();
            }
        }
    }

    private boolean passThrough(Filter filter, SignRow in, SignRow out) {
        out.clear();
        switch (filter.kind) {
            case FOLDING:
                return passFolding(filter, in, out);
            case COMPOSING:
                return passComposing(filter, in, out);
            case DIGITS:
                return passDigits(filter, in, out);
            case DROPPING:
                return passDropping(filter, in, out);
            case REPLACING:
                return passReplacing(filter, in, out);
            case HALVES:
                return passHalves(filter, in, out);
            default:
                return passWidths(filter, in, out);
        }
    }

    private boolean passFolding(Filter filter, SignRow in, SignRow out) {
        boolean fits = true;
        for (int i = 0; i < in.size() && fits; i++) {
            int sign = in.signAt(i);
            int slot = folds.slotOf(sign);
            if (slot == NO_SLOT) {
                fits = out.add(sign, in.beginAt(i), in.endAt(i));
            } else {
                filter.meetOne();
                filter.growBy(folds.unitsAt(slot) - unitsOf(sign));
                for (int k = 0; k < folds.lengthAt(slot) && fits; k++) {
                    fits = out.add(folds.partAt(slot, k), in.beginAt(i), in.endAt(i));
                }
            }
        }
        return fits;
    }

    private boolean passComposing(Filter filter, SignRow in, SignRow out) {
        boolean fits = true;
        for (int i = 0; i < in.size() && fits; i++) {
            int slot = NO_SLOT;
            if (out.size() > 0) {
                slot = pairs.slotOf(out.signAt(out.size() - 1), in.signAt(i));
            }
            if (slot == NO_SLOT) {
                fits = out.add(in.signAt(i), in.beginAt(i), in.endAt(i));
            } else {
                filter.meetOne();
                out.changeLast(pairs.signAt(slot), in.endAt(i));
            }
        }
        return fits;
    }

    private boolean passDigits(Filter filter, SignRow in, SignRow out) {
        boolean fits = true;
        for (int i = 0; i < in.size() && fits; i++) {
            int sign = in.signAt(i);
            int digit = zeros.digitOf(sign);
            if (digit != NO_DIGIT) {
                filter.meetOne();
                sign = 48 + digit;
            }
            fits = out.add(sign, in.beginAt(i), in.endAt(i));
        }
        return fits;
    }

    private boolean passDropping(Filter filter, SignRow in, SignRow out) {
        boolean fits = true;
        for (int i = 0; i < in.size() && fits; i++) {
            if (ranges.holds(in.signAt(i))) {
                filter.meetOne();
            } else {
                fits = out.add(in.signAt(i), in.beginAt(i), in.endAt(i));
            }
        }
        return fits;
    }

    private boolean passReplacing(Filter filter, SignRow in, SignRow out) {
        boolean fits = true;
        int behind = 0;
        for (int i = 0; i < in.size() && fits; i++) {
            if (i >= behind) {
                Replacement longest = strings.longestAt(in, i);
                if (longest == null) {
                    fits = out.add(in.signAt(i), in.beginAt(i), in.endAt(i));
                } else {
                    filter.meetOne();
                    behind = i + longest.length();
                    fits = longest.writeTo(out, in.beginAt(i), in.endAt(behind - 1));
                }
            }
        }
        return fits;
    }

    private boolean passHalves(Filter filter, SignRow in, SignRow out) {
        boolean fits = true;
        for (int i = 0; i < in.size() && fits; i++) {
            int sign = in.signAt(i);
            boolean goes = false;
            if (isHigh(sign) || isLow(sign)) {
                filter.meetOne();
                goes = filter.halvesRule == GO;
                sign = filter.halvesRule == REPLACE ? REPLACEMENT_SIGN : sign;
            }
            if (!goes) {
                fits = out.add(sign, in.beginAt(i), in.endAt(i));
            }
        }
        return fits;
    }

    private boolean passWidths(Filter filter, SignRow in, SignRow out) {
        boolean fits = true;
        for (int i = 0; i < in.size() && fits; i++) {
            int sign = in.signAt(i);
            int narrow = narrowed(sign);
            if (narrow != NO_SIGN) {
                filter.meetOne();
                sign = narrow;
            }
            fits = out.add(sign, in.beginAt(i), in.endAt(i));
        }
        return fits;
    }

    /** SIGNS with their SPANS, 300 at most. */
    private static final class SignRow {
        private final int[] signs = new int[ROW_LIMIT];
        private final int[] begins = new int[ROW_LIMIT];
        private final int[] ends = new int[ROW_LIMIT];
        private int size = 0;

        int size() {
            return size;
        }

        boolean has(int i) {
            return i >= 0 && i < size;
        }

        int signAt(int i) {
            return has(i) ? signs[i] : NO_SIGN;
        }

        int beginAt(int i) {
            return has(i) ? begins[i] : 0;
        }

        int endAt(int i) {
            return has(i) ? ends[i] : 0;
        }

        void clear() {
            size = 0;
        }

        boolean add(int sign, int begin, int end) {
            if (size >= ROW_LIMIT) {
                return false;
            }
            signs[size] = sign;
            begins[size] = begin;
            ends[size] = end;
            size++;
            return true;
        }

        void changeLast(int sign, int end) {
            if (size > 0) {
                signs[size - 1] = sign;
                ends[size - 1] = end;
            }
        }

        void copyFrom(SignRow other) {
            clear();
            for (int i = 0; i < other.size(); i++) {
                add(other.signAt(i), other.beginAt(i), other.endAt(i));
            }
        }

        int[] signsAlone() {
            return Arrays.copyOf(signs, size);
        }
    }

    /** A FILTER; what a run tells of it counts only when the whole run has gone through. */
    private static final class Filter {
        final int kind;
        int halvesRule = KEEP;
        int settledMet = 0;
        int settledGrown = 0;
        private int runningMet = 0;
        private int runningGrown = 0;

        Filter(int kind) {
            this.kind = kind;
        }

        void beginRun() {
            runningMet = 0;
            runningGrown = 0;
        }

        void meetOne() {
            runningMet++;
        }

        void growBy(int more) {
            runningGrown += more;
        }

        void settleRun() {
            settledMet = runningMet;
            settledGrown = runningGrown;
        }
    }

    /** FOLDS; a part that a row does not have is NO_SIGN. */
    private static final class FoldTable {
        private final int[] signs = new int[FOLD_LIMIT];
        private final int[] firsts = new int[FOLD_LIMIT];
        private final int[] seconds = new int[FOLD_LIMIT];
        private final int[] thirds = new int[FOLD_LIMIT];
        private int size = 0;

        int size() {
            return size;
        }

        int slotOf(int sign) {
            for (int i = 0; i < size; i++) {
                if (signs[i] == sign) {
                    return i;
                }
            }
            return NO_SLOT;
        }

        boolean put(int sign, int a, int b, int c) {
            int slot = slotOf(sign);
            if (slot == NO_SLOT) {
                if (size >= FOLD_LIMIT) {
                    return false;
                }
                slot = size;
                size++;
            }
            signs[slot] = sign;
            firsts[slot] = a;
            seconds[slot] = b;
            thirds[slot] = c;
            return true;
        }

        int partAt(int slot, int k) {
            if (slot < 0 || slot >= size) {
                return NO_SIGN;
            }
            switch (k) {
                case 0:
                    return firsts[slot];
                case 1:
                    return seconds[slot];
                case 2:
                    return thirds[slot];
                default:
                    return NO_SIGN;
            }
        }

        int lengthAt(int slot) {
            int length = 0;
            while (length < 3 && partAt(slot, length) != NO_SIGN) {
                length++;
            }
            return length;
        }

        int unitsAt(int slot) {
            int all = 0;
            for (int k = 0; k < lengthAt(slot); k++) {
                all += unitsOf(partAt(slot, k));
            }
            return all;
        }
    }

    /** PAIRS. */
    private static final class PairTable {
        private final int[] firsts = new int[PAIR_LIMIT];
        private final int[] seconds = new int[PAIR_LIMIT];
        private final int[] signs = new int[PAIR_LIMIT];
        private int size = 0;

        int size() {
            return size;
        }

        int slotOf(int first, int second) {
            for (int i = 0; i < size; i++) {
                if (firsts[i] == first && seconds[i] == second) {
                    return i;
                }
            }
            return NO_SLOT;
        }

        int signAt(int slot) {
            return slot >= 0 && slot < size ? signs[slot] : NO_SIGN;
        }

        boolean put(int first, int second, int sign) {
            int slot = slotOf(first, second);
            if (slot == NO_SLOT) {
                if (size >= PAIR_LIMIT) {
                    return false;
                }
                slot = size;
                size++;
            }
            firsts[slot] = first;
            seconds[slot] = second;
            signs[slot] = sign;
            return true;
        }
    }

    /** ZEROS, in the order in which they were told. */
    private static final class ZeroTable {
        private final int[] signs = new int[ZERO_LIMIT];
        private int size = 0;

        int size() {
            return size;
        }

        boolean add(int sign) {
            if (size >= ZERO_LIMIT) {
                return false;
            }
            signs[size] = sign;
            size++;
            return true;
        }

        int digitOf(int sign) {
            for (int i = 0; i < size; i++) {
                if (sign >= signs[i] && sign <= signs[i] + 9) {
                    return sign - signs[i];
                }
            }
            return NO_DIGIT;
        }
    }

    /** RANGES. */
    private static final class RangeTable {
        private final int[] firsts = new int[RANGE_LIMIT];
        private final int[] lasts = new int[RANGE_LIMIT];
        private int size = 0;

        int size() {
            return size;
        }

        boolean add(int first, int last) {
            if (size >= RANGE_LIMIT) {
                return false;
            }
            firsts[size] = first;
            lasts[size] = last;
            size++;
            return true;
        }

        boolean holds(int sign) {
            for (int i = 0; i < size; i++) {
                if (sign >= firsts[i] && sign <= lasts[i]) {
                    return true;
                }
            }
            return false;
        }
    }

    /** A STRING: the row that is looked for, and the one that it becomes. */
    private static final class Replacement {
        private final int[] before;
        private final int[] after;

        Replacement(SignRow before, SignRow after) {
            this.before = before.signsAlone();
            this.after = after.signsAlone();
        }

        int length() {
            return before.length;
        }

        boolean standsAt(SignRow row, int at) {
            if (before.length > row.size() - at) {
                return false;
            }
            for (int k = 0; k < before.length; k++) {
                if (row.signAt(at + k) != before[k]) {
                    return false;
                }
            }
            return true;
        }

        boolean writeTo(SignRow out, int begin, int end) {
            boolean fits = true;
            for (int k = 0; k < after.length && fits; k++) {
                fits = out.add(after[k], begin, end);
            }
            return fits;
        }
    }

    /** STRINGS. */
    private static final class StringTable {
        private final Replacement[] replacements = new Replacement[STRING_LIMIT];
        private int size = 0;

        int size() {
            return size;
        }

        boolean put(SignRow before, SignRow after) {
            int slot = slotOf(before);
            if (slot == NO_SLOT) {
                if (size >= STRING_LIMIT) {
                    return false;
                }
                slot = size;
                size++;
            }
            replacements[slot] = new Replacement(before, after);
            return true;
        }

        private int slotOf(SignRow before) {
            for (int i = 0; i < size; i++) {
                Replacement known = replacements[i];
                if (known != null && known.length() == before.size() && known.standsAt(before, 0)) {
                    return i;
                }
            }
            return NO_SLOT;
        }

        Replacement longestAt(SignRow row, int at) {
            Replacement longest = null;
            for (int i = 0; i < size; i++) {
                Replacement known = replacements[i];
                if (known != null && known.standsAt(row, at)
                        && (longest == null || known.length() > longest.length())) {
                    longest = known;
                }
            }
            return longest;
        }
    }
}
