import java.util.ArrayList;
import java.util.Arrays;
import java.util.LinkedHashMap;
import java.util.List;
import java.util.Map;
import java.util.TreeSet;

/**
 * What a call leaves alone. Each call is made on an object that has something of everything; then all
 * that the object holds is read out and held against the same object without the call. An object stays
 * within the 512 calls that the document gives it.
 */
public final class UnchangedState extends Checks {
    /** A TEXT that every FILTER of the chain does something to. */
    private static final int[] TEXT = {65, 97, 776, 1633, 200, 120, 121, 55296, 65281, 55297, 56320};
    /** A row of it that a STRING is told of, so that a second one tells where the MARK was. */
    private static final int[] DRAFT = {700, 701, 702, 703};

    // ---- the objects

    /** All seven kinds at places 0 to 6, none at 7; a TEXT that is not the one of the latest run; a LONG run since. */
    private static SignTables rich() {
        SignTables x = new SignTables();
        x.fold(65, 66, 67, -1);
        x.pair(97, 776, 228);
        x.zero(1632);
        x.range(200, 201);
        string(x, row(120, 121), 122, 123);
        for (int kind = 0; kind <= 6; kind++) {
            x.filter(kind, kind);
        }
        x.rule(5, 1);
        retext(x, 65, 65, 97, 776, 1634, 201, 120, 121, 55297, 65282, 55296, 56321, 33);
        x.run();
        runLong(x);
        retext(x, TEXT);
        draft(x, DRAFT[0], DRAFT[1]);
        x.mark();
        draft(x, DRAFT[2], DRAFT[3]);
        return x;
    }

    /** What a LONG run counted on its way must not come up later. */
    private static void runLong(SignTables x) {
        x.fold(65, 65, 65, 65);
        x.filter(7, 0);
        retext(x, repeated(65, 100));
        due("a LONG run", x.run(), SignTables.LONG);
        x.drop(7);
        x.fold(65, 66, 67, -1);
    }

    private static SignTables richWithoutMark() {
        SignTables x = rich();
        x.text();
        retext(x, TEXT);
        draft(x, DRAFT);
        return x;
    }

    /** The FOLDS and STRINGS make more than 300 of the TEXT. */
    private static SignTables richAndLong() {
        SignTables x = rich();
        x.text();
        x.fold(65, 66, 67, 68);
        x.fold(66, 120, 121, -1);
        x.filter(7, 0);
        retext(x, repeated(65, 100));
        draft(x, DRAFT[0], DRAFT[1]);
        x.mark();
        draft(x, DRAFT[2], DRAFT[3]);
        return x;
    }

    /** All tables are full; of the rows that a MARK in the DRAFT may part, the one that it does is new. */
    private static SignTables full() {
        SignTables x = rich();
        x.text();
        string(x, row(DRAFT[0]), 1);
        string(x, row(DRAFT[0], DRAFT[1], DRAFT[2]), 2);
        string(x, DRAFT, 2);
        for (int i = 0; i < 16; i++) {
            string(x, row(1000 + i), 3);
        }
        for (int i = 0; i < 39; i++) {
            x.fold(1100 + i, 4, -1, -1);
        }
        for (int i = 0; i < 19; i++) {
            x.pair(1200, 1200 + i, 5);
        }
        for (int i = 0; i < 9; i++) {
            x.zero(1700 + 10 * i);
        }
        for (int i = 0; i < 7; i++) {
            x.range(1300 + i, 1300 + i);
        }
        retext(x, TEXT);
        draft(x, DRAFT[0], DRAFT[1]);
        x.mark();
        draft(x, DRAFT[2], DRAFT[3]);
        return x;
    }

    private static SignTables fullDraft() {
        SignTables x = rich();
        draft(x, repeated(800, 96));
        return x;
    }

    private static SignTables object(String which) {
        switch (which) {
            case "rich":
                return rich();
            case "richWithoutMark":
                return richWithoutMark();
            case "richAndLong":
                return richAndLong();
            case "full":
                return full();
            default:
                return fullDraft();
        }
    }

    // ---- all that an object holds, part by part

    private static String signsThatCame(SignTables x) {
        StringBuilder all = new StringBuilder();
        int size = x.count(8);
        for (int i = 0; i < size; i++) {
            all.append(' ').append(x.sign(i));
        }
        return all.toString();
    }

    private static String spansThatCame(SignTables x) {
        StringBuilder all = new StringBuilder();
        int size = x.count(8);
        for (int i = 0; i < size; i++) {
            all.append(' ').append(x.place(i, false)).append('-').append(x.place(i, true));
        }
        return all.toString();
    }

    private static String unitsThatCame(SignTables x) {
        StringBuilder all = new StringBuilder();
        int size = x.units();
        for (int i = 0; i < size; i++) {
            all.append(' ').append(x.unitAt(i));
        }
        return all.toString();
    }

    /** One object is read by a run and its twin by its draft, as neither may hide what the other tells. */
    private static Map<String, String> read(SignTables x, SignTables twin) {
        Map<String, String> parts = new LinkedHashMap<>();
        for (int what = 0; what <= 8; what++) {
            parts.put("count" + what, "" + x.count(what));
        }
        for (int place = 0; place < 8; place++) {
            parts.put("told" + place, x.met(place) + ", " + x.grown(place));
        }
        parts.put("latest", signsThatCame(x) + spansThatCame(x));
        parts.put("units", unitsThatCame(x));
        readNextRun(x, parts);
        readDraft(twin, parts);
        return parts;
    }

    /** TEXT, tables, chain and RULE, by what a run makes of them. */
    private static void readNextRun(SignTables x, Map<String, String> parts) {
        int rule = x.rule(5, 0);
        x.rule(5, rule);
        parts.put("rule", "" + rule);
        int answer = x.run();
        parts.put("run", answer + (answer < 0 ? "" : signsThatCame(x) + spansThatCame(x)));
    }

    private static void readDraft(SignTables x, Map<String, String> parts) {
        for (int place = 0; place < 8; place++) {
            x.drop(place);
        }
        parts.put("string", "" + x.string());
        x.text();
        x.run();
        parts.put("draft", signsThatCame(x));
        x.filter(0, 4);
        retext(x, DRAFT);
        x.run();
        parts.put("strings", signsThatCame(x));
    }

    // ---- holding a call against none

    private static int call(SignTables x, String name, int... with) {
        switch (name) {
            case "unit": return x.unit(with[0]);
            case "mark": return x.mark();
            case "text": return x.text();
            case "string": return x.string();
            case "fold": return x.fold(with[0], with[1], with[2], with[3]);
            case "pair": return x.pair(with[0], with[1], with[2]);
            case "zero": return x.zero(with[0]);
            case "range": return x.range(with[0], with[1]);
            case "filter": return x.filter(with[0], with[1]);
            case "drop": return x.drop(with[0]);
            case "rule": return x.rule(with[0], with[1]);
            case "run": return x.run();
            case "sign": return x.sign(with[0]);
            case "place": return x.place(with[0], with[1] == 1);
            case "unitAt": return x.unitAt(with[0]);
            case "units": return x.units();
            case "broken": return x.broken(with[0]);
            case "met": return x.met(with[0]);
            case "grown": return x.grown(with[0]);
            case "table": return x.table(with[0]);
            case "digit": return x.digit(with[0]);
            default: return x.count(with[0]);
        }
    }

    /** The call answers so, and just the parts that are named (with a blank between them) are others then. */
    private static void dueChanges(String which, String parts, int answer, String name, int... with) {
        SignTables x = object(which);
        SignTables twin = object(which);
        String told = which + "." + name + Arrays.toString(with);
        due(told, call(x, name, with), answer);
        due(told + " of the twin", call(twin, name, with), answer);
        Map<String, String> before = read(object(which), object(which));
        Map<String, String> after = read(x, twin);
        List<String> changed = new ArrayList<>();
        for (String part : before.keySet()) {
            if (!before.get(part).equals(after.get(part))) {
                changed.add(part);
            }
        }
        List<String> wanted = parts.isEmpty() ? List.of() : Arrays.asList(parts.split(" "));
        dueSame(told + ": what changed", new TreeSet<>(changed).toString(), new TreeSet<>(wanted).toString());
    }

    private static void dueNoChange(String which, int answer, String name, int... with) {
        dueChanges(which, "", answer, name, with);
    }

    // ---- refused calls

    private static void unitThatIsFull() {
        dueNoChange("fullDraft", SignTables.FULL, "unit", 97);
    }

    private static void stringThatIsRefused() {
        dueNoChange("richWithoutMark", SignTables.BAD, "string");
        dueNoChange("full", SignTables.FULL, "string");
    }

    private static void foldThatIsRefused() {
        dueNoChange("rich", SignTables.BAD, "fold", 1114112, 1, 2, 3);
        dueNoChange("rich", SignTables.BAD, "fold", 65, 1, 2, -2);
        dueNoChange("rich", SignTables.BAD, "fold", 65, -1, 2, -1);
        dueNoChange("full", SignTables.FULL, "fold", 97, 1, 2, 3);
    }

    private static void pairThatIsRefused() {
        dueNoChange("rich", SignTables.BAD, "pair", 97, 776, -1);
        dueNoChange("rich", SignTables.BAD, "pair", -1, 776, 1);
        dueNoChange("full", SignTables.FULL, "pair", 776, 1633, 1);
    }

    private static void zeroThatIsRefused() {
        dueNoChange("rich", SignTables.BAD, "zero", 1114103);
        dueNoChange("full", SignTables.FULL, "zero", 97);
    }

    private static void rangeThatIsRefused() {
        dueNoChange("rich", SignTables.BAD, "range", 97, 96);
        dueNoChange("rich", SignTables.BAD, "range", 0, 1114112);
        dueNoChange("full", SignTables.FULL, "range", 0, 1114111);
    }

    private static void filterThatIsRefused() {
        dueNoChange("rich", SignTables.BAD, "filter", 5, 7);
        dueNoChange("rich", SignTables.BAD, "filter", 0, -1);
        dueNoChange("rich", SignTables.INDEX, "filter", 8, 5);
        dueNoChange("rich", SignTables.INDEX, "filter", -1, 5);
    }

    private static void dropThatIsRefusedOrOfNone() {
        dueNoChange("rich", SignTables.INDEX, "drop", 8);
        dueNoChange("rich", SignTables.INDEX, "drop", -1);
        dueNoChange("rich", 0, "drop", 7);
    }

    private static void ruleThatIsRefused() {
        dueNoChange("rich", SignTables.BAD, "rule", 5, 3);
        dueNoChange("rich", SignTables.INDEX, "rule", 8, 2);
        dueNoChange("rich", SignTables.NULL, "rule", 7, 2);
        dueNoChange("rich", SignTables.CAST, "rule", 4, 2);
    }

    private static void runThatIsLong() {
        dueNoChange("richAndLong", SignTables.LONG, "run");
    }

    // ---- questions

    private static void signs() {
        dueNoChange("rich", 66, "sign", 0);
        dueNoChange("rich", SignTables.INDEX, "sign", -1);
        dueNoChange("rich", SignTables.INDEX, "sign", 100);
    }

    private static void places() {
        dueNoChange("rich", 1, "place", 2, 0);
        dueNoChange("rich", 2, "place", 2, 1);
        dueNoChange("rich", SignTables.INDEX, "place", -1, 0);
        dueNoChange("rich", SignTables.INDEX, "place", 100, 1);
    }

    private static void unitsOfARun() {
        dueNoChange("rich", 13, "units");
        dueNoChange("rich", 66, "unitAt", 0);
        dueNoChange("rich", 56321, "unitAt", 11);
        dueNoChange("rich", SignTables.INDEX, "unitAt", -1);
        dueNoChange("rich", SignTables.INDEX, "unitAt", 13);
    }

    private static void breaks() {
        dueNoChange("rich", 1, "broken", 0);
        dueNoChange("rich", 0, "broken", 1);
        dueNoChange("rich", 1, "broken", 12);
        dueNoChange("rich", SignTables.INDEX, "broken", -1);
        dueNoChange("rich", SignTables.INDEX, "broken", 13);
    }

    private static void metOfAPlace() {
        dueNoChange("rich", 2, "met", 0);
        dueNoChange("rich", SignTables.NULL, "met", 7);
        dueNoChange("rich", SignTables.INDEX, "met", 8);
    }

    private static void grownOfAPlace() {
        dueNoChange("rich", 2, "grown", 0);
        dueNoChange("rich", SignTables.CAST, "grown", 1);
        dueNoChange("rich", SignTables.NULL, "grown", 7);
        dueNoChange("rich", SignTables.INDEX, "grown", -1);
    }

    private static void tablesAndDigits() {
        dueNoChange("rich", 1, "table", 97);
        dueNoChange("rich", SignTables.INDEX, "table", 128);
        dueNoChange("rich", 2, "digit", 1634);
        dueNoChange("rich", -9, "digit", 1631);
    }

    private static void counts() {
        int[] all = {4, 10, 1, 1, 1, 1, 1, 7, 12};
        for (int what = 0; what < all.length; what++) {
            dueNoChange("rich", all[what], "count", what);
        }
        dueNoChange("rich", SignTables.BAD, "count", -1);
        dueNoChange("rich", SignTables.BAD, "count", 9);
    }

    // ---- calls that change what they tell, and nothing else

    private static void unitChangesTheDraftAlone() {
        dueChanges("richWithoutMark", "count0 draft", 5, "unit", 97);
        dueChanges("rich", "count0 strings", 5, "unit", 97);
    }

    private static void markChangesTheMarkAlone() {
        dueChanges("rich", "strings", 4, "mark");
    }

    private static void textChangesDraftAndText() {
        dueChanges("richWithoutMark", "count0 count1 run draft", 4, "text");
    }

    private static void stringChangesDraftAndStrings() {
        dueChanges("rich", "count0 count6 string", 2, "string");
    }

    private static void tablesChangeTheNextRunAlone() {
        dueChanges("rich", "run", 1, "fold", 65, 1, 2, 3);
        dueChanges("rich", "run count2", 2, "fold", 97, 1, 2, 3);
        dueChanges("rich", "run", 1, "pair", 97, 776, 1);
        dueChanges("rich", "run count3", 2, "pair", 67, 97, 1);
        dueChanges("rich", "run count4", 2, "zero", 66);
        dueChanges("rich", "run count5", 2, "range", 66, 66);
    }

    private static void filterChangesItsPlaceAlone() {
        dueChanges("rich", "told0", 0, "filter", 0, 0);
        dueChanges("rich", "told5 run rule", 0, "filter", 5, 5);
        dueChanges("rich", "told3 run", 0, "filter", 3, 1);
        dueChanges("rich", "told7 count7", 0, "filter", 7, 5);
    }

    private static void dropChangesItsPlaceAlone() {
        dueChanges("rich", "told0 count7 run", 1, "drop", 0);
        dueChanges("rich", "told5 count7 run rule", 1, "drop", 5);
    }

    private static void ruleChangesTheNextRunAlone() {
        dueChanges("rich", "run rule", 1, "rule", 5, 2);
        dueNoChange("rich", 1, "rule", 5, 1);
    }

    private static void runChangesWhatIsToldOfItAlone() {
        dueChanges("rich", "count8 latest units told0", 9, "run");
    }

    public static void main(String[] args) {
        runCases(UnchangedState.class);
    }
}
