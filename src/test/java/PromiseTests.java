/** One method a promise: ordinary inputs, the edges that the document names, and wrong inputs. */
public final class PromiseTests extends Checks {
    private static void promise1() {
        SignTables x = new SignTables();
        for (int what = 0; what <= 8; what++) {
            due("count(" + what + ")", x.count(what), 0);
        }
        for (int place = 0; place < 8; place++) {
            due("met(" + place + ")", x.met(place), SignTables.NULL);
            due("grown(" + place + ")", x.grown(place), SignTables.NULL);
            due("rule(" + place + ", 0)", x.rule(place, 0), SignTables.NULL);
            due("drop(" + place + ")", x.drop(place), 0);
        }
        due("units()", x.units(), 0);
        due("sign(0)", x.sign(0), SignTables.INDEX);
        due("unitAt(0)", x.unitAt(0), SignTables.INDEX);
        due("digit(48)", x.digit(48), -9);
        due("string()", x.string(), SignTables.BAD);
        due("run()", x.run(), 0);
        draft(x, 65);
        due("a MARK of 0 at first", x.string(), SignTables.BAD);
        due("objects are apart", new SignTables().count(0), 0);
        due("BAD", SignTables.BAD, -1);
        due("FULL", SignTables.FULL, -2);
        due("LONG", SignTables.LONG, -3);
        due("NULL", SignTables.NULL, -11);
        due("CAST", SignTables.CAST, -12);
        due("INDEX", SignTables.INDEX, -13);
    }

    private static void promise2() {
        SignTables x = new SignTables();
        due("unit(65)", x.unit(65), 1);
        due("unit(65536 + 66)", x.unit(65536 + 66), 2);
        due("unit(-1)", x.unit(-1), 3);
        due("unit(MIN)", x.unit(Integer.MIN_VALUE), 4);
        due("text()", x.text(), 4);
        x.run();
        dueSigns("lowest 16 bits", x, 65, 66, 65535, 0);
        for (int i = 1; i <= 100; i++) {
            due("unit " + i, x.unit(97), i);
        }
        due("unit 101", x.unit(97), SignTables.FULL);
        due("count(0)", x.count(0), 100);
        due("text()", x.text(), 100);
        due("unit after text", x.unit(97), 1);
    }

    private static void promise3() {
        SignTables x = new SignTables();
        due("mark() of none", x.mark(), 0);
        draft(x, 97, 98);
        due("mark()", x.mark(), 2);
        due("mark() again", x.mark(), 2);
        due("string()", x.string(), 1);
        draft(x, 97);
        due("the MARK is 0 when emptied by string()", x.string(), SignTables.BAD);
        due("mark()", x.mark(), 1);
        x.text();
        draft(x, 97);
        due("the MARK is 0 when emptied by text()", x.string(), SignTables.BAD);
        draft(x, 55296, 56320);
        due("mark() tells UNITS", x.mark(), 3);
        draft(x, 120);
        due("mark() goes on", x.mark(), 4);
        due("string()", x.string(), 2);
        retext(x, 97, 55296, 56320, 120, 97);
        x.filter(0, 4);
        x.run();
        dueSigns("all ahead of the later MARK", x, 97);
        for (int i = 0; i < 100; i++) {
            x.unit(97);
        }
        due("mark() of all", x.mark(), 100);
    }

    private static void promise4() {
        SignTables x = new SignTables();
        due("text() of none", x.text(), 0);
        draft(x, 55296, 56320, 56320, 55296, 55296, 57343, 56319, 57344, 56319, 57343, 55295, 56320);
        due("text()", x.text(), 9);
        due("count(0)", x.count(0), 0);
        due("count(1)", x.count(1), 9);
        x.run();
        dueSigns("halves", x, 65536, 56320, 55296, 66559, 56319, 57344, 1114111, 55295, 56320);
        dueSpans("halves", x, 0, 2, 2, 3, 3, 4, 4, 6, 6, 7, 7, 8, 8, 10, 10, 11, 11, 12);
        draft(x, 56320, 56320, 57343, 56320);
        due("LOW halves alone", x.text(), 4);
        draft(x, 55296);
        due("a HIGH half at the end", x.text(), 1);
        due("the run stays with a new text", x.sign(0), 65536);
        draft(x, 56320);
        due("halves of two texts", x.text(), 1);
        due("an empty text", x.text(), 0);
        due("count(1)", x.count(1), 0);
        due("run()", x.run(), 0);
    }

    private static void promise5() {
        SignTables x = new SignTables();
        draft(x, 97, 98);
        due("no MARK", x.string(), SignTables.BAD);
        due("BAD leaves THE DRAFT", x.count(0), 2);
        x.mark();
        draft(x, 120);
        due("string()", x.string(), 1);
        due("THE DRAFT is empty", x.count(0), 0);
        due("a second one", string(x, row(97, 98), 121, 122), 1);
        x.filter(0, 4);
        retext(x, 97, 98, 97);
        x.run();
        dueSigns("the second one counts", x, 121, 122, 97);
        due("a shorter one", string(x, row(97)), 2);
        due("one of a pair of halves", string(x, row(55296, 56320), 55297, 56321), 3);
        retext(x, 97, 55296, 56320, 97, 98, 55296);
        x.run();
        dueSigns("all three", x, 66561, 121, 122, 55296);
        due("the MARK between halves", string(x, row(55296), 56320), 4);
        retext(x, 55296, 97, 98);
        x.run();
        dueSigns("each side of the MARK is a row of its own", x, 56320, 121, 122);
        for (int i = 0; i < 16; i++) {
            due("string " + i, string(x, row(300 + i)), 5 + i);
        }
        draft(x, 400);
        x.mark();
        draft(x, 401);
        due("21st", x.string(), SignTables.FULL);
        due("FULL leaves THE DRAFT", x.count(0), 2);
        due("FULL leaves the STRINGS", x.count(6), 20);
        due("FULL leaves the MARK", x.string(), SignTables.FULL);
        due("text()", x.text(), 2);
        due("one of the 20 again", string(x, row(315), 500), 20);
        due("BAD when full", x.string(), SignTables.BAD);
        retext(x, 315, 314, 400);
        x.run();
        dueSigns("after FULL", x, 500, 400);
    }

    private static void promise6() {
        SignTables x = withText(65, 66, 67);
        x.filter(0, 0);
        due("fold to one", x.fold(65, 97, -1, -1), 1);
        due("fold to three", x.fold(66, 1114111, 0, 98), 2);
        due("fold to none", x.fold(67, -1, -1, -1), 3);
        due("fold of 0", x.fold(0, 1, 2, -1), 4);
        due("fold of the last", x.fold(1114111, 1, 2, -1), 5);
        x.run();
        dueSigns("folded", x, 97, 1114111, 0, 98);
        due("a second one", x.fold(65, 120, 121, -1), 5);
        x.run();
        dueSigns("folded", x, 120, 121, 1114111, 0, 98);
        due("sign -1", x.fold(-1, 97, -1, -1), SignTables.BAD);
        due("sign too large", x.fold(1114112, 97, -1, -1), SignTables.BAD);
        due("a too large", x.fold(65, 1114112, -1, -1), SignTables.BAD);
        due("b too large", x.fold(65, 97, 1114112, -1), SignTables.BAD);
        due("c too large", x.fold(65, 97, 97, 1114112), SignTables.BAD);
        due("a below", x.fold(65, -2, -1, -1), SignTables.BAD);
        due("b below", x.fold(65, 97, -2, -1), SignTables.BAD);
        due("c below", x.fold(65, 97, 97, -2), SignTables.BAD);
        due("b behind -1", x.fold(65, -1, 97, -1), SignTables.BAD);
        due("c behind -1", x.fold(65, 97, -1, 97), SignTables.BAD);
        due("c behind two", x.fold(65, -1, -1, 97), SignTables.BAD);
        due("b, c behind -1", x.fold(65, -1, 97, 97), SignTables.BAD);
        due("count(2)", x.count(2), 5);
        for (int i = 0; i < 35; i++) {
            due("fold " + i, x.fold(200 + i, i, -1, -1), 6 + i);
        }
        due("the 41st", x.fold(300, 1, -1, -1), SignTables.FULL);
        due("the 41st, BAD", x.fold(300, 1, -2, -1), SignTables.BAD);
        due("one of the 40 again", x.fold(234, 7, -1, -1), 40);
        due("count(2)", x.count(2), 40);
        retext(x, 234, 300, 233, 65);
        x.run();
        dueSigns("after FULL", x, 7, 300, 33, 120, 121);
    }

    private static void promise7() {
        SignTables x = withText(97, 98, 98, 97);
        x.filter(0, 1);
        due("pair", x.pair(97, 98, 1114111), 1);
        x.run();
        dueSigns("in this order alone", x, 1114111, 98, 97);
        due("the other order", x.pair(98, 97, 0), 2);
        x.run();
        dueSigns("both", x, 1114111, 0);
        due("a second one", x.pair(97, 98, 120), 2);
        due("one with the same first", x.pair(97, 99, 121), 3);
        due("one with the same second", x.pair(96, 98, 122), 4);
        x.run();
        dueSigns("the second one counts", x, 120, 0);
        due("first below", x.pair(-1, 98, 1), SignTables.BAD);
        due("second below", x.pair(97, -1, 1), SignTables.BAD);
        due("sign below", x.pair(97, 98, -1), SignTables.BAD);
        due("first above", x.pair(1114112, 98, 1), SignTables.BAD);
        due("second above", x.pair(97, 1114112, 1), SignTables.BAD);
        due("sign above", x.pair(97, 98, 1114112), SignTables.BAD);
        due("count(3)", x.count(3), 4);
        for (int i = 0; i < 16; i++) {
            due("pair " + i, x.pair(200, 200 + i, i), 5 + i);
        }
        due("the 21st", x.pair(300, 300, 300), SignTables.FULL);
        due("the 21st, BAD", x.pair(300, 300, -1), SignTables.BAD);
        due("one of the 20 again", x.pair(200, 215, 99), 20);
        due("count(3)", x.count(3), 20);
        retext(x, 200, 215, 300, 300);
        x.run();
        dueSigns("after FULL", x, 99, 300, 300);
    }

    private static void promise8() {
        SignTables x = new SignTables();
        due("zero(-1)", x.zero(-1), SignTables.BAD);
        due("zero(1114103)", x.zero(1114103), SignTables.BAD);
        due("zero(1114111)", x.zero(1114111), SignTables.BAD);
        due("zero(1114112)", x.zero(1114112), SignTables.BAD);
        due("zero(MAX)", x.zero(Integer.MAX_VALUE), SignTables.BAD);
        due("count(4)", x.count(4), 0);
        due("zero(0)", x.zero(0), 1);
        due("zero(1114102)", x.zero(1114102), 2);
        due("the same once more is one more", x.zero(0), 3);
        for (int i = 0; i < 7; i++) {
            due("zero " + i, x.zero(100 + 20 * i), 4 + i);
        }
        due("the 11th", x.zero(400), SignTables.FULL);
        due("the 11th, BAD", x.zero(1114103), SignTables.BAD);
        due("one of the 10 again", x.zero(100), SignTables.FULL);
        due("count(4)", x.count(4), 10);
        due("digit(400)", x.digit(400), -9);
        due("digit(221)", x.digit(221), 1);
    }

    private static void promise9() {
        SignTables x = withText(97, 98, 99, 100, 0, 56319, 57343);
        x.filter(0, 3);
        due("range(98, 98)", x.range(98, 98), 1);
        due("range(1114111, 1114111)", x.range(1114111, 1114111), 2);
        due("range(0, 0)", x.range(0, 0), 3);
        x.run();
        dueSigns("dropped", x, 97, 99, 100);
        due("the last below the first", x.range(100, 99), SignTables.BAD);
        due("first below", x.range(-1, 99), SignTables.BAD);
        due("last above", x.range(0, 1114112), SignTables.BAD);
        due("first above", x.range(1114112, 1114113), SignTables.BAD);
        due("both below", x.range(-5, -1), SignTables.BAD);
        due("count(5)", x.count(5), 3);
        due("the same once more is one more", x.range(98, 98), 4);
        for (int i = 0; i < 4; i++) {
            due("range " + i, x.range(200 + i, 300), 5 + i);
        }
        due("the 9th", x.range(99, 100), SignTables.FULL);
        due("the 9th, BAD", x.range(100, 99), SignTables.BAD);
        due("one of the 8 again", x.range(98, 98), SignTables.FULL);
        due("count(5)", x.count(5), 8);
        x.run();
        dueSigns("after FULL", x, 97, 99, 100);
    }

    private static void promise10() {
        SignTables x = withText(65, 55296);
        x.fold(65, 97, 97, -1);
        for (int kind = 0; kind <= 6; kind++) {
            due("filter(" + kind + ", " + kind + ")", x.filter(kind, kind), 0);
        }
        due("filter(7, 5)", x.filter(7, 5), 0);
        due("count(7)", x.count(7), 8);
        due("kind -1", x.filter(0, -1), SignTables.BAD);
        due("kind 7", x.filter(0, 7), SignTables.BAD);
        due("place -1", x.filter(-1, 0), SignTables.INDEX);
        due("place 8", x.filter(8, 0), SignTables.INDEX);
        due("place MIN", x.filter(Integer.MIN_VALUE, 0), SignTables.INDEX);
        due("BAD is told first", x.filter(8, 7), SignTables.BAD);
        x.run();
        due("met(0)", x.met(0), 1);
        due("grown(0)", x.grown(0), 1);
        due("RULE of HALVES at first", x.rule(5, 2), 0);
        due("a new one of the same kind", x.filter(5, 5), 0);
        due("has RULE 0", x.rule(5, 1), 0);
        due("has MET 0", x.met(5), 0);
        due("a new FOLDING", x.filter(0, 0), 0);
        due("grown(0) of a new one", x.grown(0), 0);
        due("met(0) of a new one", x.met(0), 0);
        due("another kind", x.filter(0, 6), 0);
        due("grown(0) of another kind", x.grown(0), SignTables.CAST);
        due("count(7)", x.count(7), 8);
        x.run();
        dueSigns("no FOLDING any more", x, 65, 65533);
    }

    private static void promise11() {
        SignTables x = withText(65);
        x.fold(65, 97, -1, -1);
        x.filter(0, 0);
        x.filter(7, 0);
        due("drop(-1)", x.drop(-1), SignTables.INDEX);
        due("drop(8)", x.drop(8), SignTables.INDEX);
        due("drop(1)", x.drop(1), 0);
        due("drop(7)", x.drop(7), 1);
        due("drop(7) again", x.drop(7), 0);
        due("count(7)", x.count(7), 1);
        x.run();
        due("the other one stays", x.sign(0), 97);
        due("drop(0)", x.drop(0), 1);
        due("what came out stays", x.sign(0), 97);
        due("met(0)", x.met(0), SignTables.NULL);
        x.run();
        due("none is left", x.sign(0), 65);
    }

    private static void promise12() {
        SignTables x = new SignTables();
        x.filter(3, 5);
        x.filter(4, 0);
        due("rule(3, 1)", x.rule(3, 1), 0);
        due("rule(3, 2)", x.rule(3, 2), 1);
        due("rule(3, 2)", x.rule(3, 2), 2);
        due("rule(3, 3)", x.rule(3, 3), SignTables.BAD);
        due("rule(3, -1)", x.rule(3, -1), SignTables.BAD);
        due("rule(3, 0)", x.rule(3, 0), 2);
        due("rule(2, 0)", x.rule(2, 0), SignTables.NULL);
        due("rule(4, 0)", x.rule(4, 0), SignTables.CAST);
        due("rule(-1, 0)", x.rule(-1, 0), SignTables.INDEX);
        due("rule(8, 0)", x.rule(8, 0), SignTables.INDEX);
        due("rule(8, 3)", x.rule(8, 3), SignTables.BAD);
        due("rule(2, 3)", x.rule(2, 3), SignTables.BAD);
        due("rule(4, 3)", x.rule(4, 3), SignTables.BAD);
        x.filter(5, 5);
        due("rule(5, 2)", x.rule(5, 2), 0);
        due("each has its own", x.rule(3, 1), 0);
        for (int kind = 0; kind <= 6; kind++) {
            x.filter(0, kind);
            due("rule of kind " + kind, x.rule(0, 0), kind == 5 ? 0 : SignTables.CAST);
        }
    }

    private static void promise13() {
        runFolding();
        runComposing();
        runDigitsDroppingWidths();
        runReplacing();
        runHalves();
        runOrder();
        runLong();
    }

    private static void runFolding() {
        SignTables x = withText(65, 66, 67, 55296, 56320, 68);
        x.fold(65, 66, -1, -1);
        x.fold(66, 120, 121, 122);
        x.fold(67, -1, -1, -1);
        x.fold(65536, 49, 50, -1);
        x.filter(0, 0);
        due("run()", x.run(), 7);
        dueSigns("folded once", x, 66, 120, 121, 122, 49, 50, 68);
        dueSpans("folded", x, 0, 1, 1, 2, 1, 2, 1, 2, 3, 5, 3, 5, 5, 6);
    }

    private static void runComposing() {
        SignTables x = withText(97, 98, 99, 99, 100);
        x.filter(0, 1);
        x.pair(97, 98, 200);
        x.pair(200, 99, 201);
        x.pair(98, 99, 1);
        x.pair(99, 99, 2);
        x.pair(99, 100, 99);
        due("run()", x.run(), 2);
        dueSigns("composed with the last one out", x, 201, 99);
        dueSpans("composed", x, 0, 3, 3, 5);
        due("met(0)", x.met(0), 3);
    }

    private static void runDigitsDroppingWidths() {
        SignTables x = withText(1632, 1641, 1642, 1635);
        x.zero(1634);
        x.zero(1632);
        x.filter(0, 2);
        due("digits", x.run(), 4);
        dueSigns("the ZERO told first", x, 48, 55, 56, 49);
        dueSpans("digits", x, 0, 1, 1, 2, 2, 3, 3, 4);
        SignTables y = withText(97, 55296, 56320, 99, 96, 100);
        y.range(97, 99);
        y.range(65536, 65536);
        y.filter(0, 3);
        due("dropping", y.run(), 2);
        dueSigns("dropped", y, 96, 100);
        dueSpans("dropped", y, 4, 5, 5, 6);
        SignTables z = withText(65280, 65281, 65374, 65375, 12288, 12287, 12289);
        z.filter(0, 6);
        due("widths", z.run(), 7);
        dueSigns("narrow", z, 65280, 33, 126, 65375, 32, 12287, 12289);
    }

    private static void runReplacing() {
        SignTables w = withText(repeated(97, 100));
        string(w, row(97), 98, 98, 98, 98);
        string(w, repeated(97, 97), 99, 99, 99);
        w.filter(0, 4);
        due("97 at once, three alone", w.run(), 15);
        dueSpans("97 at once, three alone", w, 0, 97, 0, 97, 0, 97, 97, 98);
        SignTables x = withText(97, 98, 99, 97, 98, 97, 97, 98);
        string(x, row(97), 49);
        string(x, row(97, 98, 99), 51, 51, 51);
        string(x, row(98, 97), 52);
        string(x, row(97, 97, 98, 99), 53);
        x.filter(0, 4);
        due("replacing", x.run(), 7);
        dueSigns("the longest, from the left", x, 51, 51, 51, 49, 52, 49, 98);
        dueSpans("the longest", x, 0, 3, 0, 3, 0, 3, 3, 4, 4, 6, 6, 7, 7, 8);
        SignTables y = withText(97, 97, 98);
        string(y, row(97), 97, 98);
        string(y, row(98));
        y.filter(0, 4);
        due("what comes out is not looked at again", y.run(), 4);
        dueSigns("replaced", y, 97, 98, 97, 98);
    }

    private static void runHalves() {
        SignTables x = withText(55295, 55296, 65, 57343, 57344, 55296, 56320);
        x.filter(0, 5);
        due("RULE 0", x.run(), 6);
        dueSigns("kept", x, 55295, 55296, 65, 57343, 57344, 65536);
        x.rule(0, 1);
        due("RULE 1", x.run(), 6);
        dueSigns("replaced", x, 55295, 65533, 65, 65533, 57344, 65536);
        x.rule(0, 2);
        due("RULE 2", x.run(), 4);
        dueSigns("dropped", x, 55295, 65, 57344, 65536);
        dueSpans("dropped", x, 0, 1, 2, 3, 4, 5, 5, 7);
        SignTables y = withText(65);
        y.fold(65, 55296, 56320, -1);
        y.filter(0, 0);
        y.filter(1, 5);
        y.rule(1, 1);
        due("halves that a FOLD made stay two", y.run(), 2);
        dueSigns("two", y, 65533, 65533);
    }

    private static void runOrder() {
        SignTables x = withText(65, 66);
        x.fold(65, 97, 98, -1);
        string(x, row(98, 66), 120, 121, 122);
        x.pair(97, 120, 200);
        x.filter(6, 1);
        x.filter(4, 4);
        x.filter(2, 0);
        due("run()", x.run(), 3);
        dueSigns("from place 0 on", x, 200, 121, 122);
        dueSpans("spans go through", x, 0, 2, 0, 2, 0, 2);
        due("run() again", x.run(), 3);
        dueSigns("THE TEXT stays", x, 200, 121, 122);
        due("count(1)", x.count(1), 2);
        x.filter(0, 1);
        x.filter(1, 4);
        x.drop(4);
        x.drop(6);
        due("another order", x.run(), 3);
        dueSigns("another order", x, 97, 98, 66);
        SignTables y = withText(65);
        y.fold(65, 97, -1, -1);
        y.fold(97, 98, -1, -1);
        y.filter(0, 0);
        y.filter(7, 0);
        y.run();
        dueSigns("two of one kind", y, 98);
    }

    private static void runLong() {
        SignTables x = withText(repeated(65, 100));
        x.fold(65, 66, 66, 66);
        x.fold(66, 67, -1, -1);
        x.filter(0, 0);
        x.filter(1, 0);
        due("300 fit", x.run(), 300);
        due("met(1)", x.met(1), 300);
        x.fold(66, 67, 68, -1);
        x.range(0, 1114111);
        x.filter(2, 3);
        due("LONG though dropped later", x.run(), SignTables.LONG);
        due("sign(299) stays", x.sign(299), 67);
        due("place(299, true) stays", x.place(299, true), 100);
        due("met(0) stays", x.met(0), 100);
        due("met(1) stays", x.met(1), 300);
        due("grown(0) stays", x.grown(0), 200);
        due("grown(1) stays", x.grown(1), 0);
        due("met(2) of a new one", x.met(2), 0);
        due("count(8) stays", x.count(8), 300);
        due("units() stay", x.units(), 300);
        due("LONG again", x.run(), SignTables.LONG);
        due("count(8) stays again", x.count(8), 300);
        retext(x, 65, 66);
        due("a shorter text", x.run(), 0);
        due("met(2)", x.met(2), 8);
        runOneTooMany();
    }

    /** 75 SIGNS become 300, and one more comes out by itself or out of a STRING. */
    private static void runOneTooMany() {
        SignTables x = withText(repeated(97, 75));
        string(x, row(97), 98, 99, 100, 101);
        string(x, row(66), 98);
        x.filter(0, 4);
        due("300 by STRINGS", x.run(), 300);
        draft(x, repeated(97, 75));
        retext(x, 65);
        due("301, the last one by itself", x.run(), SignTables.LONG);
        draft(x, repeated(97, 75));
        retext(x, 66);
        due("301, the last one out of a STRING", x.run(), SignTables.LONG);
        due("count(8) stays", x.count(8), 300);
        due("met(0) stays", x.met(0), 75);
        due("sign(299) stays", x.sign(299), 101);
    }

    private static void promise14() {
        SignTables x = withText(97, 55296, 56320, 98);
        due("before any run", x.sign(0), SignTables.INDEX);
        x.run();
        due("sign(0)", x.sign(0), 97);
        due("sign(1)", x.sign(1), 65536);
        due("sign(2)", x.sign(2), 98);
        due("sign(3)", x.sign(3), SignTables.INDEX);
        due("sign(-1)", x.sign(-1), SignTables.INDEX);
        due("sign(MAX)", x.sign(Integer.MAX_VALUE), SignTables.INDEX);
        due("sign(MIN)", x.sign(Integer.MIN_VALUE), SignTables.INDEX);
        retext(x, 120);
        due("of the latest run", x.sign(0), 97);
        x.run();
        due("of the new run", x.sign(0), 120);
        due("no longer", x.sign(1), SignTables.INDEX);
    }

    private static void promise15() {
        SignTables x = withText(55296, 56320, 97, 98, 55296);
        due("before any run", x.place(0, false), SignTables.INDEX);
        x.run();
        dueSpans("as they are", x, 0, 2, 2, 3, 3, 4, 4, 5);
        due("place(4, false)", x.place(4, false), SignTables.INDEX);
        due("place(4, true)", x.place(4, true), SignTables.INDEX);
        due("place(-1, true)", x.place(-1, true), SignTables.INDEX);
        due("place(MIN, false)", x.place(Integer.MIN_VALUE, false), SignTables.INDEX);
        retext(x, 97);
        due("in THE TEXT as it was", x.place(3, true), 5);
        SignTables y = withText(55296, 56320, 97, 98, 97, 98, 99);
        string(y, row(97, 98), 65, 66);
        y.pair(65536, 65, 200);
        y.range(66, 66);
        y.pair(200, 65, 201);
        y.fold(201, 1, 2, -1);
        y.filter(0, 4);
        y.filter(1, 1);
        y.filter(2, 3);
        y.filter(3, 1);
        y.filter(4, 0);
        y.run();
        dueSigns("through five", y, 1, 2, 99);
        dueSpans("through five", y, 0, 6, 0, 6, 6, 7);
    }

    private static void promise16() {
        SignTables x = withText(55296, 56320, 97, 56319, 57343, 56320, 65535);
        due("before any run", x.unitAt(0), SignTables.INDEX);
        x.run();
        int[] all = {55296, 56320, 97, 56319, 57343, 56320, 65535};
        for (int i = 0; i < all.length; i++) {
            due("unitAt(" + i + ")", x.unitAt(i), all[i]);
        }
        due("unitAt(7)", x.unitAt(7), SignTables.INDEX);
        due("unitAt(-1)", x.unitAt(-1), SignTables.INDEX);
        due("unitAt(MAX)", x.unitAt(Integer.MAX_VALUE), SignTables.INDEX);
        due("unitAt(MIN)", x.unitAt(Integer.MIN_VALUE), SignTables.INDEX);
        x.fold(65, 128512, 1114111, 65536);
        x.filter(0, 0);
        retext(x, 65);
        x.run();
        int[] wide = {55357, 56832, 56319, 57343, 55296, 56320, SignTables.INDEX};
        for (int i = 0; i < wide.length; i++) {
            due("wide unitAt(" + i + ")", x.unitAt(i), wide[i]);
        }
    }

    private static void promise17() {
        SignTables x = withText(55296, 56320, 97, 56320);
        due("before any run", x.units(), 0);
        x.run();
        due("units()", x.units(), 4);
        x.filter(0, 0);
        x.fold(97, 65536, 65535, 65536);
        retext(x, 98, 98);
        due("units() of the latest run", x.units(), 4);
        x.run();
        due("units()", x.units(), 2);
        retext(x, 97, 98);
        x.run();
        due("units()", x.units(), 6);
        x.fold(97, 65536, 65536, 65536);
        retext(x, repeated(97, 100));
        x.run();
        due("units() at most", x.units(), 600);
        due("unitAt(599)", x.unitAt(599), 56320);
        due("unitAt(600)", x.unitAt(600), SignTables.INDEX);
    }

    private static void promise18() {
        SignTables x = withText(97, 90, 300, 48, 57, 32, 9, 33, 33, 0, 127, 128);
        due("broken(0) before any run", x.broken(0), 1);
        due("broken(1) before any run", x.broken(1), SignTables.INDEX);
        x.run();
        int[] want = {1, 0, 0, 1, 0, 1, 0, 1, 1, 1, 1, 1, 1};
        for (int i = 0; i < want.length; i++) {
            due("broken(" + i + ")", x.broken(i), want[i]);
        }
        due("broken(13)", x.broken(13), SignTables.INDEX);
        due("broken(-1)", x.broken(-1), SignTables.INDEX);
        due("broken(MAX)", x.broken(Integer.MAX_VALUE), SignTables.INDEX);
        due("broken(MIN)", x.broken(Integer.MIN_VALUE), SignTables.INDEX);
        retext(x, 97, 98, 55296, 56320);
        x.run();
        due("letters", x.broken(1), 0);
        due("a large one is 1", x.broken(2), 0);
        due("behind the last", x.broken(3), 1);
        due("beyond", x.broken(4), SignTables.INDEX);
        retext(x, 128, 97, 65535, 55296);
        x.run();
        due("128 is above 127", x.broken(1), 0);
        due("65535 is above 127", x.broken(2), 0);
        due("a half is above 127", x.broken(3), 0);
        x.text();
        x.run();
        due("none came out, at 0", x.broken(0), 1);
        due("none came out, at 1", x.broken(1), SignTables.INDEX);
    }

    private static void promise19() {
        SignTables x = withText(65, 48, 97, 97, 55296, 65281, 66);
        x.fold(65, 65, -1, -1);
        x.fold(67, 67, -1, -1);
        x.pair(97, 97, 97);
        x.zero(48);
        x.range(66, 66);
        string(x, row(65, 48), 65, 48);
        for (int kind = 0; kind <= 6; kind++) {
            x.filter(kind, kind);
            due("met before any run", x.met(kind), 0);
        }
        due("met(7)", x.met(7), SignTables.NULL);
        due("met(8)", x.met(8), SignTables.INDEX);
        due("met(-1)", x.met(-1), SignTables.INDEX);
        x.run();
        for (int kind = 0; kind <= 6; kind++) {
            due("met of kind " + kind + ", also if nothing changed", x.met(kind), 1);
        }
        x.rule(5, 1);
        due("it stays without a run", x.met(5), 1);
        x.text();
        due("it stays with a new text", x.met(0), 1);
        x.run();
        for (int kind = 0; kind <= 6; kind++) {
            due("none in an empty text", x.met(kind), 0);
        }
        retext(x, 65281, 12288, 65374, 55296, 56320, 57343, 55296);
        x.run();
        due("WIDTHS", x.met(6), 3);
        due("HALVES replaced", x.met(5), 2);
        x.rule(5, 2);
        x.run();
        due("HALVES dropped", x.met(5), 2);
        x.rule(5, 0);
        x.run();
        due("HALVES kept", x.met(5), 2);
        retext(x, 65, 65, 97, 97, 97, 66);
        x.run();
        due("FOLDING", x.met(0), 2);
        due("COMPOSING", x.met(1), 2);
        due("DROPPING", x.met(3), 1);
    }

    private static void promise20() {
        SignTables x = withText(65, 66, 66, 67, 68);
        x.fold(65, 65536, 65536, 65536);
        x.fold(66, -1, -1, -1);
        x.fold(67, 67, -1, -1);
        x.filter(0, 0);
        x.filter(1, 5);
        due("before", x.grown(0), 0);
        x.run();
        due("5 more, 2 fewer", x.grown(0), 3);
        due("CAST", x.grown(1), SignTables.CAST);
        due("NULL", x.grown(2), SignTables.NULL);
        due("place 8", x.grown(8), SignTables.INDEX);
        due("place -1", x.grown(-1), SignTables.INDEX);
        retext(x, 66, 67);
        due("it stays with a new text", x.grown(0), 3);
        x.run();
        due("it may be -1", x.grown(0), -1);
        x.fold(65536, 49, -1, -1);
        retext(x, 55296, 56320, 55296, 56320, 66);
        x.run();
        due("wide ones to narrow ones", x.grown(0), -3);
        x.filter(2, 0);
        retext(x, 65);
        x.run();
        due("each has its own: the first", x.grown(0), 5);
        due("each has its own: the second", x.grown(2), -3);
        x.text();
        x.run();
        due("none", x.grown(0), 0);
        for (int kind = 1; kind <= 6; kind++) {
            x.filter(7, kind);
            due("CAST of kind " + kind, x.grown(7), SignTables.CAST);
        }
    }

    private static void promise21() {
        SignTables x = new SignTables();
        for (int i = 0; i <= 127; i++) {
            int want = i >= 33 && i <= 126 ? 4 : 0;
            if (Character.isLetter((char) i)) {
                want = 1;
            } else if (Character.isDigit((char) i)) {
                want = 2;
            } else if (i == 9 || i == 10 || i == 13 || i == 32) {
                want = 3;
            }
            due("table(" + i + ")", x.table(i), want);
        }
        due("table(-1)", x.table(-1), SignTables.INDEX);
        due("table(128)", x.table(128), SignTables.INDEX);
        due("table(MAX)", x.table(Integer.MAX_VALUE), SignTables.INDEX);
        due("table(MIN)", x.table(Integer.MIN_VALUE), SignTables.INDEX);
    }

    private static void promise22() {
        SignTables x = new SignTables();
        due("none", x.digit(48), -9);
        x.zero(50);
        x.zero(48);
        x.zero(0);
        due("digit(47)", x.digit(47), -9);
        due("digit(48)", x.digit(48), 0);
        due("digit(49)", x.digit(49), 1);
        due("told first", x.digit(50), 0);
        due("told first", x.digit(57), 7);
        due("digit(59)", x.digit(59), 9);
        due("digit(60)", x.digit(60), -9);
        due("digit(9)", x.digit(9), 9);
        due("digit(10)", x.digit(10), -9);
        due("digit(-1)", x.digit(-1), -9);
        due("digit(MIN)", x.digit(Integer.MIN_VALUE), -9);
        due("digit(MAX)", x.digit(Integer.MAX_VALUE), -9);
        x.zero(1114102);
        due("digit(1114111)", x.digit(1114111), 9);
        due("digit(1114112)", x.digit(1114112), -9);
    }

    private static void promise23() {
        SignTables x = withText(55296, 56320, 65);
        draft(x, 97, 98, 99, 100);
        x.fold(65, 97, -1, -1);
        x.fold(66, 98, -1, -1);
        x.pair(1, 2, 3);
        x.zero(48);
        x.zero(1632);
        x.zero(1776);
        x.range(1, 2);
        x.mark();
        x.string();
        draft(x, 97, 98, 99, 100);
        x.filter(0, 6);
        x.filter(5, 1);
        x.run();
        x.text();
        draft(x, 97, 98, 99);
        int[] want = {3, 4, 2, 1, 3, 1, 1, 2, 2};
        for (int what = 0; what < want.length; what++) {
            due("count(" + what + ")", x.count(what), want[what]);
        }
        due("count(9)", x.count(9), SignTables.BAD);
        due("count(-1)", x.count(-1), SignTables.BAD);
        due("count(MIN)", x.count(Integer.MIN_VALUE), SignTables.BAD);
    }

    private static void run(int number) {
        begin("promise " + number);
        switch (number) {
            case 1: promise1(); break;
            case 2: promise2(); break;
            case 3: promise3(); break;
            case 4: promise4(); break;
            case 5: promise5(); break;
            case 6: promise6(); break;
            case 7: promise7(); break;
            case 8: promise8(); break;
            case 9: promise9(); break;
            case 10: promise10(); break;
            case 11: promise11(); break;
            case 12: promise12(); break;
            case 13: promise13(); break;
            case 14: promise14(); break;
            case 15: promise15(); break;
            case 16: promise16(); break;
            case 17: promise17(); break;
            case 18: promise18(); break;
            case 19: promise19(); break;
            case 20: promise20(); break;
            case 21: promise21(); break;
            case 22: promise22(); break;
            default: promise23(); break;
        }
    }

    public static void main(String[] args) {
        for (int number = 1; number <= 23; number++) {
            run(number);
        }
        end("promises 1 to 23 hold");
    }
}
