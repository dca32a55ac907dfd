/** The boundary cases of promises 13 to 23 (run, and what is asked of an object), each a method of its own. */
public final class AskingBoundaries extends Checks {

    // ---- what the tests below have in common

    /** 100 SIGNS, each folded to three at place 0: 300 came out. */
    private static SignTables with300() {
        SignTables x = withText(repeated(65, 100));
        x.fold(65, 66, 66, 66);
        x.filter(0, 0);
        x.run();
        return x;
    }

    /** 99 SIGNS become 297 and then 300; what is told comes behind them. */
    private static SignTables with300ByTwo(int... behind) {
        SignTables x = new SignTables();
        x.fold(70, 71, 71, 71);
        x.fold(71, 72, 72, -1);
        x.fold(65, 66, 66, 66);
        x.unit(70);
        draft(x, repeated(65, 98));
        retext(x, behind);
        x.filter(0, 0);
        x.filter(1, 0);
        return x;
    }

    /** A run of few SIGNS was told, and the next one is LONG: 101 SIGNS would be 303. */
    private static SignTables beforeLong() {
        SignTables x = withText(55296, 56320, 65);
        x.fold(65, 66, 66, 66);
        x.fold(66, 97, 97, 97);
        x.filter(2, 0);
        x.run();
        retext(x, repeated(65, 100));
        x.filter(3, 0);
        return x;
    }

    /** THE DRAFT, THE TEXT, THE CHAIN and the FOLDS are those of beforeLong(). */
    private static void dueAsBeforeLong(SignTables x) {
        due("unit(97)", x.unit(97), 1);
        due("run()", x.run(), SignTables.LONG);
        retext(x, 65);
        due("run() of a shorter text", x.run(), 10);
        dueSpans("a shorter text", x, 0, 1, 1, 2);
    }

    private static void dueClass(int sign, int wanted) {
        due("table(" + sign + ")", new SignTables().table(sign), wanted);
    }

    /** Whether there is a break between two SIGNS. */
    private static void dueBroken(int left, int right, int wanted) {
        SignTables x = withText(left, right);
        x.run();
        due("broken(1) of " + left + ", " + right, x.broken(1), wanted);
    }

    private static SignTables withRunOf(int... units) {
        SignTables x = withText(units);
        x.run();
        return x;
    }

    private static SignTables withGrown(int... units) {
        SignTables x = withText(units);
        x.fold(65, 65536, 65536, 65536);
        x.fold(66, -1, -1, -1);
        x.fold(67, 67, -1, -1);
        x.fold(65536, 97, -1, -1);
        x.filter(0, 0);
        x.run();
        return x;
    }

    // ---- Promise 13

    private static void p13AnEmptyTextGivesNone() {
        SignTables x = new SignTables();
        x.filter(0, 0);
        due("run()", x.run(), 0);
    }

    private static void p13AllMayGo() {
        SignTables x = withText(97, 98);
        x.range(97, 98);
        x.filter(0, 3);
        due("run()", x.run(), 0);
        due("count(8)", x.count(8), 0);
    }

    private static void p13TheSameRunTwice() {
        SignTables x = withText(65);
        x.fold(65, 65, 65, -1);
        x.filter(0, 0);
        due("run()", x.run(), 2);
        due("run()", x.run(), 2);
        due("met(0)", x.met(0), 1);
    }

    private static void p13FoldingTo300IsNotLong() {
        SignTables x = with300();
        due("count(8)", x.count(8), 300);
        due("sign(299)", x.sign(299), 66);
    }

    private static void p13FoldingTo300ByTwoIsNotLong() {
        due("run()", with300ByTwo().run(), 300);
    }

    private static void p13The301stThatIsNotFoldedIsLong() {
        due("run()", with300ByTwo(98).run(), SignTables.LONG);
    }

    private static void p13The301stOutOfAFoldIsLong() {
        SignTables x = with300ByTwo(98);
        x.fold(98, 98, -1, -1);
        due("run()", x.run(), SignTables.LONG);
    }

    private static void p13AFoldToNoneBehind300IsNotLong() {
        SignTables x = with300ByTwo(98);
        x.fold(98, -1, -1, -1);
        due("run()", x.run(), 300);
    }

    private static void p13The302ndOutOfAFoldIsLong() {
        SignTables x = with300ByTwo();
        x.fold(71, 72, 72, 72);
        due("run()", x.run(), SignTables.LONG);
    }

    private static void p13ReplacingTo300IsNotLong() {
        SignTables x = withText(repeated(97, 75));
        string(x, row(97), 1, 2, 3, 4);
        x.filter(0, 4);
        due("run()", x.run(), 300);
        due("sign(299)", x.sign(299), 4);
    }

    private static void p13ReplacingTo301ByAStringIsLong() {
        SignTables x = new SignTables();
        string(x, row(97), 1, 2, 3, 4);
        string(x, row(98), 1);
        draft(x, repeated(97, 75));
        retext(x, 98);
        x.filter(0, 4);
        due("run()", x.run(), SignTables.LONG);
    }

    private static void p13ReplacingTo301ByASignIsLong() {
        SignTables x = new SignTables();
        string(x, row(97), 1, 2, 3, 4);
        draft(x, repeated(97, 75));
        retext(x, 98);
        x.filter(0, 4);
        due("run()", x.run(), SignTables.LONG);
    }

    private static void p13ReplacingByTheLongestOnesIsLong() {
        SignTables x = new SignTables();
        string(x, row(97), repeated(98, 99));
        retext(x, 97, 97, 97);
        x.filter(0, 4);
        due("297", x.run(), 297);
        retext(x, 97, 97, 97, 97);
        due("396", x.run(), SignTables.LONG);
    }

    private static void p13ComposingOf300IsNotLong() {
        SignTables x = with300();
        x.pair(66, 66, 67);
        x.filter(1, 1);
        due("run()", x.run(), 150);
    }

    private static void p13EachOtherKindPasses300() {
        SignTables x = with300();
        x.zero(66);
        for (int kind = 1; kind <= 6; kind++) {
            x.filter(kind, kind);
        }
        due("run()", x.run(), 300);
        due("sign(299)", x.sign(299), 48);
    }

    private static void p13LongThoughALaterFilterDrops() {
        SignTables x = withText(repeated(65, 100));
        x.fold(65, 66, 66, 66);
        x.fold(66, 67, 67, -1);
        x.range(0, 1114111);
        x.filter(0, 0);
        x.filter(1, 0);
        x.filter(2, 3);
        due("run()", x.run(), SignTables.LONG);
    }

    private static void p13NotLongWhenAnEarlierFilterDrops() {
        SignTables x = withText(repeated(65, 100));
        x.fold(65, 66, 66, 66);
        x.fold(66, 67, 67, -1);
        x.range(66, 66);
        x.filter(0, 0);
        x.filter(1, 3);
        x.filter(2, 0);
        due("run()", x.run(), 0);
    }

    private static void p13LongAtPlace7() {
        SignTables x = with300();
        x.fold(66, 67, 67, -1);
        x.drop(0);
        x.filter(6, 0);
        x.filter(7, 0);
        due("run()", x.run(), SignTables.LONG);
    }

    private static void p13LongLeavesWhatCameOut() {
        SignTables x = beforeLong();
        String before = picture(x);
        due("run()", x.run(), SignTables.LONG);
        dueSame("all", picture(x), before);
        dueSigns("of the run before", x, 65536, 66, 66, 66);
    }

    private static void p13LongTwiceLeavesWhatCameOut() {
        SignTables x = beforeLong();
        String before = picture(x);
        x.run();
        due("run()", x.run(), SignTables.LONG);
        dueSame("all", picture(x), before);
    }

    private static void p13LongLeavesUnits() {
        SignTables x = beforeLong();
        x.run();
        due("units()", x.units(), 5);
        due("unitAt(0)", x.unitAt(0), 55296);
        due("unitAt(4)", x.unitAt(4), 66);
        due("unitAt(5)", x.unitAt(5), SignTables.INDEX);
    }

    private static void p13LongLeavesMetAndGrown() {
        SignTables x = beforeLong();
        x.run();
        due("met(2)", x.met(2), 1);
        due("grown(2)", x.grown(2), 2);
    }

    private static void p13LongLeavesMet0OfANewFilter() {
        SignTables x = beforeLong();
        x.run();
        due("met(3)", x.met(3), 0);
        due("grown(3)", x.grown(3), 0);
    }

    private static void p13LongLeavesTheText() {
        SignTables x = beforeLong();
        x.run();
        due("count(1)", x.count(1), 100);
        x.drop(3);
        due("run()", x.run(), 300);
        due("met(2)", x.met(2), 100);
    }

    private static void p13LongLeavesTheDraft() {
        SignTables x = beforeLong();
        draft(x, 97, 98);
        x.run();
        due("count(0)", x.count(0), 2);
        due("unit(99)", x.unit(99), 3);
    }

    private static void p13TheFirstRunOfAllIsLong() {
        SignTables x = withText(repeated(65, 100));
        x.fold(65, 65, 65, 65);
        x.filter(0, 0);
        x.filter(1, 0);
        due("run()", x.run(), SignTables.LONG);
        due("count(8)", x.count(8), 0);
        due("sign(0)", x.sign(0), SignTables.INDEX);
        due("units()", x.units(), 0);
        due("met(0)", x.met(0), 0);
        due("grown(0)", x.grown(0), 0);
    }

    private static void p13AShorterTextAfterLong() {
        SignTables x = beforeLong();
        x.run();
        retext(x, 65);
        due("run()", x.run(), 9);
        due("met(2)", x.met(2), 1);
        due("met(3)", x.met(3), 3);
    }

    private static void p13ALaterRunTakesTheLatestTables() {
        SignTables x = with300();
        x.fold(65, -1, -1, -1);
        due("sign(299) ahead of run()", x.sign(299), 66);
        due("run()", x.run(), 0);
    }

    // ---- Promise 14

    private static void p14TheFirstSign() {
        due("sign(0)", withRunOf(97, 98).sign(0), 97);
    }

    private static void p14TheLastSign() {
        due("sign(1)", withRunOf(97, 98).sign(1), 98);
    }

    private static void p14BehindTheLastSignIsIndex() {
        due("sign(2)", withRunOf(97, 98).sign(2), SignTables.INDEX);
    }

    private static void p14Below0IsIndex() {
        due("sign(-1)", withRunOf(97, 98).sign(-1), SignTables.INDEX);
    }

    private static void p14TheEndsOfIntAreIndex() {
        for (int i : endsOfInt()) {
            due("sign(" + i + ")", withRunOf(97, 98).sign(i), SignTables.INDEX);
        }
    }

    private static void p14BeforeAnyRunIsIndex() {
        due("sign(0)", withText(97).sign(0), SignTables.INDEX);
    }

    private static void p14NoneCameOutIsIndex() {
        SignTables x = withRunOf(97);
        x.text();
        x.run();
        due("sign(0)", x.sign(0), SignTables.INDEX);
    }

    private static void p14Sign300IsIndex() {
        SignTables x = with300();
        due("sign(299)", x.sign(299), 66);
        due("sign(300)", x.sign(300), SignTables.INDEX);
    }

    private static void p14ALongerRunBeforeIsForgotten() {
        SignTables x = withRunOf(97, 98, 99);
        retext(x, 100);
        x.run();
        due("sign(1)", x.sign(1), SignTables.INDEX);
    }

    private static void p14ARefusedSignChangesNothing() {
        SignTables x = beforeLong();
        String before = picture(x);
        due("sign(-1)", x.sign(-1), SignTables.INDEX);
        due("sign(4)", x.sign(4), SignTables.INDEX);
        dueSame("all", picture(x), before);
        dueAsBeforeLong(x);
    }

    // ---- Promise 15

    private static void p15TheFirstSpan() {
        SignTables x = withRunOf(55296, 56320, 98);
        due("place(0, false)", x.place(0, false), 0);
        due("place(0, true)", x.place(0, true), 2);
    }

    private static void p15TheLastSpan() {
        SignTables x = withRunOf(55296, 56320, 98);
        due("place(1, false)", x.place(1, false), 2);
        due("place(1, true)", x.place(1, true), 3);
    }

    private static void p15BehindTheLastIsIndex() {
        SignTables x = withRunOf(55296, 56320, 98);
        due("place(2, false)", x.place(2, false), SignTables.INDEX);
        due("place(2, true)", x.place(2, true), SignTables.INDEX);
    }

    private static void p15Below0IsIndex() {
        SignTables x = withRunOf(97);
        due("place(-1, false)", x.place(-1, false), SignTables.INDEX);
        due("place(-1, true)", x.place(-1, true), SignTables.INDEX);
    }

    private static void p15TheEndsOfIntAreIndex() {
        SignTables x = withRunOf(97);
        for (int i : endsOfInt()) {
            due("place(" + i + ", false)", x.place(i, false), SignTables.INDEX);
            due("place(" + i + ", true)", x.place(i, true), SignTables.INDEX);
        }
    }

    private static void p15BeforeAnyRunIsIndex() {
        SignTables x = withText(97);
        due("place(0, false)", x.place(0, false), SignTables.INDEX);
        due("place(0, true)", x.place(0, true), SignTables.INDEX);
    }

    private static void p15OfTheTextAsItWas() {
        SignTables x = withRunOf(97, 55296, 56320);
        retext(x, 97);
        due("place(1, true)", x.place(1, true), 3);
        x.text();
        due("place(1, false)", x.place(1, false), 1);
    }

    private static void p15ThroughSeveralFilters() {
        SignTables x = withText(65, 66, 67, 68);
        x.pair(65, 66, 1);
        string(x, row(1, 67), 2, 3);
        x.fold(3, 4, 5, -1);
        x.range(2, 2);
        x.filter(0, 1);
        x.filter(1, 4);
        x.filter(2, 0);
        x.filter(3, 3);
        x.run();
        dueSigns("all", x, 4, 5, 68);
        dueSpans("all", x, 0, 3, 0, 3, 3, 4);
    }

    private static void p15ComposingOfTwoWithOneSpan() {
        SignTables x = withText(97, 65);
        x.fold(65, 66, 67, -1);
        x.pair(66, 67, 68);
        x.filter(0, 0);
        x.filter(1, 1);
        x.run();
        dueSigns("one", x, 97, 68);
        dueSpans("one", x, 0, 1, 1, 2);
    }

    private static void p15ComposingOverADroppedOneSpansIt() {
        SignTables x = withText(97, 120, 98);
        x.range(120, 120);
        x.pair(97, 98, 1);
        x.filter(0, 3);
        x.filter(1, 1);
        x.run();
        dueSpans("from the first to the second", x, 0, 3);
    }

    private static void p15ARefusedPlaceChangesNothing() {
        SignTables x = beforeLong();
        String before = picture(x);
        due("place(-1, true)", x.place(-1, true), SignTables.INDEX);
        due("place(4, false)", x.place(4, false), SignTables.INDEX);
        dueSame("all", picture(x), before);
        dueAsBeforeLong(x);
    }

    // ---- Promise 16

    private static void p16TheFirstUnit() {
        due("unitAt(0)", withRunOf(97, 98).unitAt(0), 97);
    }

    private static void p16TheHalvesOfAWideSign() {
        SignTables x = withRunOf(97, 55297, 56322, 98);
        due("unitAt(1)", x.unitAt(1), 55297);
        due("unitAt(2)", x.unitAt(2), 56322);
        due("unitAt(3)", x.unitAt(3), 98);
    }

    private static void p16TheHalvesOf65536() {
        SignTables x = withRunOf(55296, 56320);
        due("unitAt(0)", x.unitAt(0), 55296);
        due("unitAt(1)", x.unitAt(1), 56320);
        due("unitAt(2)", x.unitAt(2), SignTables.INDEX);
    }

    private static void p16TheHalvesOf1114111() {
        SignTables x = withRunOf(56319, 57343);
        due("unitAt(0)", x.unitAt(0), 56319);
        due("unitAt(1)", x.unitAt(1), 57343);
        due("unitAt(2)", x.unitAt(2), SignTables.INDEX);
    }

    private static void p16TheLastLowHalfUnderAHighOne() {
        SignTables x = withRunOf(55296, 57343);
        due("unitAt(0)", x.unitAt(0), 55296);
        due("unitAt(1)", x.unitAt(1), 57343);
    }

    private static void p16Sign65535IsOneUnit() {
        SignTables x = withRunOf(65535, 97);
        due("unitAt(0)", x.unitAt(0), 65535);
        due("unitAt(1)", x.unitAt(1), 97);
    }

    private static void p16AnAloneHalfIsOneUnit() {
        SignTables x = withRunOf(56320, 55296);
        due("unitAt(0)", x.unitAt(0), 56320);
        due("unitAt(1)", x.unitAt(1), 55296);
        due("unitAt(2)", x.unitAt(2), SignTables.INDEX);
    }

    private static void p16BehindTheLastUnitIsIndex() {
        due("unitAt(2)", withRunOf(97, 98).unitAt(2), SignTables.INDEX);
    }

    private static void p16Below0IsIndex() {
        due("unitAt(-1)", withRunOf(97, 98).unitAt(-1), SignTables.INDEX);
    }

    private static void p16TheEndsOfIntAreIndex() {
        for (int i : endsOfInt()) {
            due("unitAt(" + i + ")", withRunOf(97, 55296, 56320).unitAt(i), SignTables.INDEX);
        }
    }

    private static void p16BeforeAnyRunIsIndex() {
        due("unitAt(0)", withText(97).unitAt(0), SignTables.INDEX);
    }

    private static void p16TheLastOf600Units() {
        SignTables x = with300();
        x.fold(66, 65537, -1, -1);
        x.filter(1, 0);
        x.run();
        due("unitAt(598)", x.unitAt(598), 55296);
        due("unitAt(599)", x.unitAt(599), 56321);
        due("unitAt(600)", x.unitAt(600), SignTables.INDEX);
    }

    private static void p16ARefusedUnitAtChangesNothing() {
        SignTables x = beforeLong();
        String before = picture(x);
        due("unitAt(-1)", x.unitAt(-1), SignTables.INDEX);
        due("unitAt(5)", x.unitAt(5), SignTables.INDEX);
        dueSame("all", picture(x), before);
        dueAsBeforeLong(x);
    }

    // ---- Promise 17

    private static void p17BeforeAnyRunThereAreNone() {
        due("units()", withText(97).units(), 0);
    }

    private static void p17NoneCameOut() {
        SignTables x = withRunOf(97);
        x.text();
        x.run();
        due("units()", x.units(), 0);
    }

    private static void p17Sign65535IsOne() {
        due("units()", withRunOf(65535).units(), 1);
    }

    private static void p17Sign65536AreTwo() {
        due("units()", withRunOf(55296, 56320).units(), 2);
    }

    private static void p17AloneHalvesAreOneEach() {
        due("units()", withRunOf(56320, 55296).units(), 2);
    }

    private static void p17At300WideSignsThereAre600() {
        SignTables x = with300();
        x.fold(66, 65536, -1, -1);
        x.filter(1, 0);
        due("run()", x.run(), 300);
        due("units()", x.units(), 600);
    }

    // ---- Promise 18

    private static void p18OneAtTheFirst() {
        due("broken(0)", withRunOf(97, 98).broken(0), 1);
    }

    private static void p18OneBehindTheLast() {
        due("broken(2)", withRunOf(97, 98).broken(2), 1);
    }

    private static void p18BeyondIsIndex() {
        due("broken(3)", withRunOf(97, 98).broken(3), SignTables.INDEX);
    }

    private static void p18Below0IsIndex() {
        due("broken(-1)", withRunOf(97, 98).broken(-1), SignTables.INDEX);
    }

    private static void p18TheEndsOfIntAreIndex() {
        for (int i : endsOfInt()) {
            due("broken(" + i + ")", withRunOf(97, 98).broken(i), SignTables.INDEX);
        }
    }

    private static void p18OneSignAlone() {
        SignTables x = withRunOf(97);
        due("broken(0)", x.broken(0), 1);
        due("broken(1)", x.broken(1), 1);
        due("broken(2)", x.broken(2), SignTables.INDEX);
    }

    private static void p18NoneCameOut() {
        SignTables x = withRunOf(97);
        x.text();
        x.run();
        due("broken(0)", x.broken(0), 1);
        due("broken(1)", x.broken(1), SignTables.INDEX);
    }

    private static void p18BeforeAnyRun() {
        SignTables x = withText(97, 98);
        due("broken(0)", x.broken(0), 1);
        due("broken(1)", x.broken(1), SignTables.INDEX);
    }

    private static void p18BehindTheLastOf300() {
        SignTables x = with300();
        due("broken(299)", x.broken(299), 0);
        due("broken(300)", x.broken(300), 1);
        due("broken(301)", x.broken(301), SignTables.INDEX);
    }

    private static void p18BothOf0AreBroken() {
        dueBroken(0, 0, 1);
        dueBroken(127, 31, 1);
    }

    private static void p18BothLettersAreNot() {
        dueBroken(65, 122, 0);
    }

    private static void p18BothDigitsAreNot() {
        dueBroken(48, 57, 0);
    }

    private static void p18BothBlanksAreNot() {
        dueBroken(9, 32, 0);
    }

    private static void p18BothOf4AreBroken() {
        dueBroken(33, 126, 1);
        dueBroken(46, 46, 1);
    }

    private static void p18UnlikeClassesAreBroken() {
        int[] ofClass = {0, 97, 48, 32, 33};
        for (int left = 0; left < ofClass.length; left++) {
            for (int right = 0; right < ofClass.length; right++) {
                if (left != right) {
                    dueBroken(ofClass[left], ofClass[right], 1);
                }
            }
        }
    }

    private static void p18SignsAbove127AreLetters() {
        dueBroken(128, 97, 0);
        dueBroken(97, 65535, 0);
        dueBroken(55296, 97, 0);
        dueBroken(128, 48, 1);
    }

    private static void p18Sign127IsNoLetter() {
        dueBroken(127, 97, 1);
    }

    private static void p18AWideSignIsALetter() {
        SignTables x = withRunOf(97, 55296, 56320, 98);
        due("broken(1)", x.broken(1), 0);
        due("broken(2)", x.broken(2), 0);
        due("broken(3)", x.broken(3), 1);
    }

    private static void p18ARefusedBrokenChangesNothing() {
        SignTables x = beforeLong();
        String before = picture(x);
        due("broken(-1)", x.broken(-1), SignTables.INDEX);
        due("broken(5)", x.broken(5), SignTables.INDEX);
        dueSame("all", picture(x), before);
        dueAsBeforeLong(x);
    }

    // ---- Promise 19

    private static void p19Below0IsIndex() {
        due("met(-1)", with300().met(-1), SignTables.INDEX);
    }

    private static void p19Place8IsIndex() {
        due("met(8)", with300().met(8), SignTables.INDEX);
    }

    private static void p19TheEndsOfIntAreIndex() {
        for (int place : endsOfInt()) {
            due("met(" + place + ")", with300().met(place), SignTables.INDEX);
        }
    }

    private static void p19NoneIsNull() {
        due("met(1)", with300().met(1), SignTables.NULL);
        due("met(7)", with300().met(7), SignTables.NULL);
    }

    private static void p19Place0() {
        due("met(0)", with300().met(0), 100);
    }

    private static void p19Place7() {
        SignTables x = withText(65281, 65282);
        x.filter(7, 6);
        x.run();
        due("met(7)", x.met(7), 2);
    }

    private static void p19BeforeAnyRunIs0() {
        SignTables x = withText(65281);
        x.filter(0, 6);
        due("met(0)", x.met(0), 0);
    }

    private static void p19AFilterBehindTheLatestRunHas0() {
        SignTables x = with300();
        x.filter(1, 0);
        due("met(1)", x.met(1), 0);
        due("met(0)", x.met(0), 100);
    }

    private static void p19OfTheLatestRunAlone() {
        SignTables x = with300();
        x.text();
        due("a new text alone", x.met(0), 100);
        x.run();
        due("after the run", x.met(0), 0);
    }

    private static void p19AtMost300() {
        SignTables x = with300();
        x.range(66, 66);
        x.filter(1, 3);
        x.run();
        due("met(1)", x.met(1), 300);
    }

    private static void p19TwoOfOneKindHaveTheirOwn() {
        SignTables x = withText(65, 66);
        x.fold(65, 66, 66, -1);
        x.filter(0, 0);
        x.filter(1, 0);
        x.run();
        due("met(0)", x.met(0), 1);
        due("met(1)", x.met(1), 0);
    }

    private static void p19ARefusedMetChangesNothing() {
        SignTables x = beforeLong();
        String before = picture(x);
        due("met(8)", x.met(8), SignTables.INDEX);
        due("met(0)", x.met(0), SignTables.NULL);
        dueSame("all", picture(x), before);
        dueAsBeforeLong(x);
    }

    // ---- Promise 20

    private static void p20Below0IsIndex() {
        due("grown(-1)", withGrown(65).grown(-1), SignTables.INDEX);
    }

    private static void p20Place8IsIndex() {
        due("grown(8)", withGrown(65).grown(8), SignTables.INDEX);
    }

    private static void p20TheEndsOfIntAreIndex() {
        for (int place : endsOfInt()) {
            due("grown(" + place + ")", withGrown(65).grown(place), SignTables.INDEX);
        }
    }

    private static void p20NoneIsNull() {
        due("grown(1)", withGrown(65).grown(1), SignTables.NULL);
    }

    private static void p20AnotherKindIsCast() {
        for (int kind = 1; kind <= 6; kind++) {
            SignTables x = withGrown(65);
            x.filter(1, kind);
            due("grown of kind " + kind, x.grown(1), SignTables.CAST);
        }
    }

    private static void p20BeforeAnyRunIs0() {
        SignTables x = withText(65);
        x.fold(65, 66, 66, -1);
        x.filter(0, 0);
        due("grown(0)", x.grown(0), 0);
    }

    private static void p20AFilterBehindTheLatestRunHas0() {
        SignTables x = withGrown(65);
        x.filter(1, 0);
        due("grown(1)", x.grown(1), 0);
    }

    private static void p20Longer() {
        due("grown(0)", withGrown(65, 97).grown(0), 5);
    }

    private static void p20Shorter() {
        due("grown(0)", withGrown(66, 97).grown(0), -1);
    }

    private static void p20AsLong() {
        due("grown(0)", withGrown(67).grown(0), 0);
        due("met(0)", withGrown(67).met(0), 1);
    }

    private static void p20LongerAndShorterInAll() {
        due("grown(0)", withGrown(65, 66, 66, 66, 66, 66).grown(0), 0);
    }

    private static void p20UnitsNotSigns() {
        due("grown(0)", withGrown(55296, 56320).grown(0), -1);
    }

    private static void p20TheNumbersOfFailuresToo() {
        due("BAD", withGrown(66).grown(0), -1);
        due("FULL", withGrown(repeated(66, 2)).grown(0), -2);
        due("LONG", withGrown(repeated(66, 3)).grown(0), -3);
        due("NULL", withGrown(repeated(66, 11)).grown(0), -11);
        due("CAST", withGrown(repeated(66, 12)).grown(0), -12);
        due("INDEX", withGrown(repeated(66, 13)).grown(0), -13);
    }

    private static void p20TheMostThatItGrows() {
        due("grown(0)", withGrown(repeated(65, 100)).grown(0), 500);
    }

    private static void p20TheMostThatItShrinks() {
        due("grown(0)", withGrown(repeated(66, 100)).grown(0), -100);
    }

    private static void p20OfTheLatestRunAlone() {
        SignTables x = withGrown(65);
        retext(x, 66);
        due("a new text alone", x.grown(0), 5);
        x.run();
        due("after the run", x.grown(0), -1);
    }

    private static void p20ByTheFilterAtThePlaceAlone() {
        SignTables x = withGrown(65);
        x.filter(7, 0);
        x.run();
        due("grown(0)", x.grown(0), 5);
        due("grown(7)", x.grown(7), -3);
    }

    private static void p20ARefusedGrownChangesNothing() {
        SignTables x = beforeLong();
        String before = picture(x);
        due("grown(8)", x.grown(8), SignTables.INDEX);
        due("grown(0)", x.grown(0), SignTables.NULL);
        dueSame("all", picture(x), before);
        dueAsBeforeLong(x);
    }

    // ---- Promise 21

    private static void p21Below0IsIndex() {
        dueClass(-1, SignTables.INDEX);
    }

    private static void p21TheFirst() {
        dueClass(0, 0);
    }

    private static void p21TheLast() {
        dueClass(127, 0);
    }

    private static void p21128IsIndex() {
        dueClass(128, SignTables.INDEX);
    }

    private static void p21TheEndsOfIntAreIndex() {
        for (int i : endsOfInt()) {
            dueClass(i, SignTables.INDEX);
        }
    }

    private static void p21LargeLetters() {
        dueClass(64, 4);
        dueClass(65, 1);
        dueClass(90, 1);
        dueClass(91, 4);
    }

    private static void p21SmallLetters() {
        dueClass(96, 4);
        dueClass(97, 1);
        dueClass(122, 1);
        dueClass(123, 4);
    }

    private static void p21Digits() {
        dueClass(47, 4);
        dueClass(48, 2);
        dueClass(57, 2);
        dueClass(58, 4);
    }

    private static void p21Blanks() {
        dueClass(9, 3);
        dueClass(10, 3);
        dueClass(13, 3);
        dueClass(32, 3);
    }

    private static void p21BesideTheBlanks() {
        dueClass(8, 0);
        dueClass(11, 0);
        dueClass(12, 0);
        dueClass(14, 0);
        dueClass(31, 0);
    }

    private static void p21Others() {
        dueClass(33, 4);
        dueClass(126, 4);
    }

    private static void p21ARefusedTableChangesNothing() {
        SignTables x = beforeLong();
        String before = picture(x);
        due("table(-1)", x.table(-1), SignTables.INDEX);
        due("table(128)", x.table(128), SignTables.INDEX);
        dueSame("all", picture(x), before);
        dueAsBeforeLong(x);
    }

    // ---- Promise 22

    private static void p22NoZerosIsNone() {
        due("digit(48)", new SignTables().digit(48), -9);
        due("digit(0)", new SignTables().digit(0), -9);
    }

    private static void p22BelowAZero() {
        SignTables x = new SignTables();
        x.zero(1632);
        due("digit(1631)", x.digit(1631), -9);
    }

    private static void p22AZero() {
        SignTables x = new SignTables();
        x.zero(1632);
        due("digit(1632)", x.digit(1632), 0);
    }

    private static void p22NineAboveAZero() {
        SignTables x = new SignTables();
        x.zero(1632);
        due("digit(1641)", x.digit(1641), 9);
    }

    private static void p22TenAboveAZero() {
        SignTables x = new SignTables();
        x.zero(1632);
        due("digit(1642)", x.digit(1642), -9);
    }

    private static void p22TheOneToldFirst() {
        SignTables x = new SignTables();
        x.zero(1005);
        x.zero(1000);
        due("digit(1005)", x.digit(1005), 0);
        due("digit(1009)", x.digit(1009), 4);
        due("digit(1004)", x.digit(1004), 4);
        due("digit(1000)", x.digit(1000), 0);
    }

    private static void p22TheOneToldLast() {
        SignTables x = new SignTables();
        for (int i = 0; i < 10; i++) {
            x.zero(1000 + 10 * i);
        }
        due("digit(1090)", x.digit(1090), 0);
        due("digit(1099)", x.digit(1099), 9);
        due("digit(1100)", x.digit(1100), -9);
    }

    private static void p22ASignBelow0IsNone() {
        SignTables x = new SignTables();
        x.zero(0);
        due("digit(-1)", x.digit(-1), -9);
        due("digit(-9)", x.digit(-9), -9);
    }

    private static void p22ASignBeyondTheLastIsNone() {
        SignTables x = new SignTables();
        x.zero(1114102);
        due("digit(1114111)", x.digit(1114111), 9);
        due("digit(1114112)", x.digit(1114112), -9);
    }

    private static void p22TheEndsOfIntAreNone() {
        SignTables x = new SignTables();
        x.zero(0);
        x.zero(1114102);
        for (int sign : endsOfInt()) {
            due("digit(" + sign + ")", x.digit(sign), -9);
        }
    }

    private static void p22WithoutAFilterAndARun() {
        SignTables x = withText(1632);
        x.zero(1632);
        x.run();
        due("digit(1632)", x.digit(1632), 0);
        due("sign(0)", x.sign(0), 1632);
    }

    private static void p22NoDigitChangesNothing() {
        SignTables x = beforeLong();
        x.zero(48);
        String before = picture(x);
        due("digit(47)", x.digit(47), -9);
        dueSame("all", picture(x), before);
        due("digit(48)", x.digit(48), 0);
        dueAsBeforeLong(x);
    }

    // ---- Promise 23

    private static void p23Below0IsBad() {
        due("count(-1)", with300().count(-1), SignTables.BAD);
    }

    private static void p23WhatOf0IsTheDraft() {
        SignTables x = new SignTables();
        x.unit(97);
        due("count(0)", x.count(0), 1);
    }

    private static void p23WhatOf8IsWhatCameOut() {
        due("count(8)", with300().count(8), 300);
    }

    private static void p23WhatOf9IsBad() {
        due("count(9)", with300().count(9), SignTables.BAD);
    }

    private static void p23TheEndsOfIntAreBad() {
        for (int what : endsOfInt()) {
            due("count(" + what + ")", with300().count(what), SignTables.BAD);
        }
    }

    private static void p23TheTextIsCountedInSigns() {
        SignTables x = withText(55296, 56320, 97);
        due("count(1)", x.count(1), 2);
    }

    private static void p23TheDraftIsCountedInUnits() {
        SignTables x = new SignTables();
        draft(x, 55296, 56320);
        due("count(0)", x.count(0), 2);
    }

    private static void p23FiltersAreCountedNotPlaces() {
        SignTables x = new SignTables();
        x.filter(7, 0);
        due("count(7)", x.count(7), 1);
        x.filter(7, 1);
        due("a new one in its place", x.count(7), 1);
        x.drop(7);
        due("none", x.count(7), 0);
    }

    private static void p23EachCountIsOfItsOwn() {
        SignTables x = new SignTables();
        x.fold(1, 2, -1, -1);
        x.pair(1, 1, 1);
        x.pair(1, 2, 1);
        for (int i = 0; i < 3; i++) {
            x.zero(100 * i);
        }
        for (int i = 0; i < 4; i++) {
            x.range(i, i);
        }
        for (int i = 0; i < 5; i++) {
            string(x, row(i));
        }
        int[] wanted = {0, 0, 1, 2, 3, 4, 5, 0, 0};
        for (int what = 0; what < wanted.length; what++) {
            due("count(" + what + ")", x.count(what), wanted[what]);
        }
    }

    private static void p23ARefusedCountChangesNothing() {
        SignTables x = beforeLong();
        String before = picture(x);
        due("count(-1)", x.count(-1), SignTables.BAD);
        due("count(9)", x.count(9), SignTables.BAD);
        dueSame("all", picture(x), before);
        dueAsBeforeLong(x);
    }

    public static void main(String[] args) {
        runCases(AskingBoundaries.class);
    }
}
