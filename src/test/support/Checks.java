import java.lang.reflect.InvocationTargetException;
import java.lang.reflect.Method;
import java.util.Arrays;
import java.util.Comparator;

/** What the tests have in common: making objects, and holding answers against those that are due. */
public abstract class Checks {
    private static final int[] ENDS_OF_INT = {Integer.MIN_VALUE, Integer.MAX_VALUE};

    private static int wrong = 0;
    private static String part = "";

    static void begin(String name) {
        part = name;
    }

    static void due(String call, int got, int want) {
        if (got != want) {
            wrong++;
            System.out.println(part + ": " + call + " answered " + got + ", due is " + want);
        }
    }

    static void dueSame(String what, String got, String want) {
        if (!got.equals(want)) {
            wrong++;
            System.out.println(part + ": " + what + " is " + got + ", due is " + want);
        }
    }

    static void dueSigns(String what, SignTables x, int... signs) {
        due(what + ": count(8)", x.count(8), signs.length);
        for (int i = 0; i < signs.length; i++) {
            due(what + ": sign(" + i + ")", x.sign(i), signs[i]);
        }
        due(what + ": sign behind the last", x.sign(signs.length), SignTables.INDEX);
    }

    /** begin, end of each SIGN that came out, one behind the other. */
    static void dueSpans(String what, SignTables x, int... spans) {
        for (int i = 0; i < spans.length / 2; i++) {
            due(what + ": place(" + i + ", false)", x.place(i, false), spans[2 * i]);
            due(what + ": place(" + i + ", true)", x.place(i, true), spans[2 * i + 1]);
        }
    }

    static void draft(SignTables x, int... units) {
        for (int u : units) {
            x.unit(u);
        }
    }

    static SignTables withText(int... units) {
        SignTables x = new SignTables();
        retext(x, units);
        return x;
    }

    static void retext(SignTables x, int... units) {
        draft(x, units);
        x.text();
    }

    static int string(SignTables x, int[] before, int... after) {
        draft(x, before);
        x.mark();
        draft(x, after);
        return x.string();
    }

    static int[] row(int... numbers) {
        return numbers;
    }

    static int[] repeated(int number, int times) {
        int[] all = new int[times];
        Arrays.fill(all, number);
        return all;
    }

    static int[] endsOfInt() {
        return ENDS_OF_INT.clone();
    }

    /** All that can be asked of an object without changing it; for few SIGNS, as an object has 512 calls. */
    static String picture(SignTables x) {
        StringBuilder all = new StringBuilder();
        for (int what = 0; what <= 8; what++) {
            all.append(x.count(what)).append(' ');
        }
        for (int place = 0; place < 8; place++) {
            all.append('[').append(x.met(place)).append(' ').append(x.grown(place)).append(']');
        }
        for (int i = 0; i < x.count(8); i++) {
            all.append(' ').append(x.sign(i)).append('@').append(x.place(i, false))
                    .append('-').append(x.place(i, true)).append(x.broken(i) == 1 ? "|" : "");
        }
        return all.append(" units ").append(x.units()).toString();
    }

    /** Runs every method of a class that is its own case: static, private, without arguments. */
    static void runCases(Class<?> cases) {
        Method[] methods = cases.getDeclaredMethods();
        Arrays.sort(methods, Comparator.comparing(Method::getName));
        int run = 0;
        for (Method method : methods) {
            if (!method.isSynthetic() && method.getParameterCount() == 0
                    && method.getReturnType() == void.class) {
                begin(cases.getSimpleName() + "." + method.getName());
                runCase(method);
                run++;
            }
        }
        if (run == 0) {
            wrong++;
        }
        end(run + " cases hold");
    }

    private static void runCase(Method method) {
        try {
            method.setAccessible(true);
            method.invoke(null);
        } catch (InvocationTargetException | IllegalAccessException e) {
            wrong++;
            System.out.println(part + ": threw " + (e.getCause() == null ? e : e.getCause()));
        }
    }

    static void end(String held) {
        System.out.println(wrong == 0 ? held : wrong + " answers are not as due");
        if (wrong != 0) {
            System.exit(1);
        }
    }
}
