/** The boundary cases that Terms 1 and 2 name, each a method of its own. */
public final class TermBoundaries extends Checks {

    // ---- Terms 1: UNITS, THE DRAFT, the MARK

    private static void unit0IsTheSmallest() {
        SignTables x = withText(0);
        due("run()", x.run(), 1);
        dueSigns("0", x, 0);
    }

    private static void unit65535IsTheLargest() {
        SignTables x = withText(65535);
        due("run()", x.run(), 1);
        dueSigns("65535", x, 65535);
    }

    private static void theMarkIs0AtFirst() {
        SignTables x = new SignTables();
        draft(x, 97, 98);
        due("string()", x.string(), SignTables.BAD);
    }

    private static void theMarkIs0WhenTextEmptiesTheDraft() {
        SignTables x = new SignTables();
        draft(x, 97, 98);
        due("mark()", x.mark(), 2);
        x.text();
        draft(x, 97, 98, 99);
        due("string()", x.string(), SignTables.BAD);
        due("count(0)", x.count(0), 3);
    }

    private static void theMarkIs0WhenStringEmptiesTheDraft() {
        SignTables x = new SignTables();
        due("string()", string(x, row(97, 98), 99), 1);
        draft(x, 100, 101, 102);
        due("string()", x.string(), SignTables.BAD);
        due("count(0)", x.count(0), 3);
    }

    // ---- Terms 1: HIGH and LOW halves

    private static void unit55295IsNoHighHalf() {
        SignTables x = new SignTables();
        draft(x, 55295, 56320);
        due("text()", x.text(), 2);
        x.run();
        dueSigns("apart", x, 55295, 56320);
    }

    private static void unit55296IsTheFirstHighHalf() {
        SignTables x = new SignTables();
        draft(x, 55296, 56320);
        due("text()", x.text(), 1);
        x.run();
        dueSigns("the smallest of two", x, 65536);
    }

    private static void unit56319IsTheLastHighHalf() {
        SignTables x = new SignTables();
        draft(x, 56319, 56320);
        due("text()", x.text(), 1);
        x.run();
        dueSigns("one", x, 1113088);
    }

    private static void unit56320IsNoHighHalf() {
        SignTables x = new SignTables();
        draft(x, 56320, 56320);
        due("text()", x.text(), 2);
        x.run();
        dueSigns("apart", x, 56320, 56320);
    }

    private static void unit56319IsNoLowHalf() {
        SignTables x = new SignTables();
        draft(x, 55296, 56319);
        due("text()", x.text(), 2);
        x.run();
        dueSigns("apart", x, 55296, 56319);
    }

    private static void unit56321IsALowHalf() {
        SignTables x = new SignTables();
        draft(x, 55296, 56321);
        due("text()", x.text(), 1);
        x.run();
        dueSigns("one", x, 65537);
    }

    private static void unit57343IsTheLastLowHalf() {
        SignTables x = new SignTables();
        draft(x, 55296, 57343);
        due("text()", x.text(), 1);
        x.run();
        dueSigns("one", x, 66559);
    }

    private static void unit57344IsNoLowHalf() {
        SignTables x = new SignTables();
        draft(x, 55296, 57344);
        due("text()", x.text(), 2);
        x.run();
        dueSigns("apart", x, 55296, 57344);
    }

    private static void theNextHighHalfIs1024Further() {
        SignTables x = withText(55297, 56320);
        x.run();
        dueSigns("one", x, 66560);
    }

    private static void theLargestSignIsOfTheLastHalves() {
        SignTables x = withText(56319, 57343);
        x.run();
        dueSigns("one", x, 1114111);
    }

    private static void aHighHalfAtTheEndIsAlone() {
        SignTables x = new SignTables();
        draft(x, 97, 55296);
        due("text()", x.text(), 2);
        x.run();
        dueSigns("alone", x, 97, 55296);
    }

    private static void aHighHalfAtTheEndOfAFullDraftIsAlone() {
        SignTables x = new SignTables();
        draft(x, repeated(97, 99));
        due("the last one", x.unit(55296), 100);
        due("text()", x.text(), 100);
        x.run();
        due("sign(99)", x.sign(99), 55296);
    }

    private static void twoHalvesAtTheEndOfAFullDraftAreOne() {
        SignTables x = new SignTables();
        draft(x, repeated(97, 98));
        draft(x, 56319, 57343);
        due("text()", x.text(), 99);
        x.run();
        due("sign(98)", x.sign(98), 1114111);
        due("place(98, true)", x.place(98, true), 100);
    }

    private static void aHighHalfDoesNotSeeWhatTheDraftHadBefore() {
        SignTables x = withText(97, 56320);
        x.unit(55296);
        due("text()", x.text(), 1);
        x.run();
        dueSigns("alone", x, 55296);
    }

    private static void aLowHalfAtTheBeginningIsAlone() {
        SignTables x = withText(56320, 97);
        x.run();
        dueSigns("alone", x, 56320, 97);
    }

    private static void aLowHalfAheadOfAHighOneIsAlone() {
        SignTables x = withText(56320, 55296);
        x.run();
        dueSigns("alone", x, 56320, 55296);
    }

    private static void ofTwoHighHalvesTheSecondTakesTheLowOne() {
        SignTables x = withText(55296, 55297, 56320);
        x.run();
        dueSigns("from the left", x, 55296, 66560);
    }

    private static void ofTwoLowHalvesTheSecondIsAlone() {
        SignTables x = withText(55296, 56320, 56321);
        x.run();
        dueSigns("from the left", x, 65536, 56321);
    }

    private static void halvesWithOneBetweenThemAreAlone() {
        SignTables x = withText(55296, 97, 56320);
        x.run();
        dueSigns("alone", x, 55296, 97, 56320);
    }

    private static void aHalfHasItsOwnNumberAsASign() {
        SignTables x = withText(55296, 97, 57343);
        x.fold(55296, 49, -1, -1);
        x.fold(57343, 50, -1, -1);
        x.filter(0, 0);
        x.run();
        dueSigns("folded", x, 49, 97, 50);
    }

    // ---- Terms 1: the rows that become another

    private static void aFoldMayBeOfNone() {
        SignTables x = withText(65);
        x.fold(65, -1, -1, -1);
        x.filter(0, 0);
        due("run()", x.run(), 0);
    }

    private static void aFoldMayBeOfOne() {
        SignTables x = withText(65);
        x.fold(65, 1, -1, -1);
        x.filter(0, 0);
        x.run();
        dueSigns("one", x, 1);
    }

    private static void aFoldMayBeOfTwo() {
        SignTables x = withText(65);
        x.fold(65, 1, 2, -1);
        x.filter(0, 0);
        x.run();
        dueSigns("two", x, 1, 2);
    }

    private static void aFoldMayBeOfThree() {
        SignTables x = withText(65);
        x.fold(65, 1, 2, 3);
        x.filter(0, 0);
        x.run();
        dueSigns("three", x, 1, 2, 3);
    }

    private static void aSecondFoldOfASignTakesThePlaceOfTheFirst() {
        SignTables x = withText(65, 66);
        x.fold(65, 1, 2, 3);
        x.fold(66, 4, -1, -1);
        due("fold", x.fold(65, 5, -1, -1), 2);
        x.filter(0, 0);
        x.run();
        dueSigns("the second", x, 5, 4);
    }

    private static void aSecondPairOfTwoTakesThePlaceOfTheFirst() {
        SignTables x = withText(65, 66);
        x.pair(65, 66, 1);
        due("pair", x.pair(65, 66, 2), 1);
        x.filter(0, 1);
        x.run();
        dueSigns("the second", x, 2);
    }

    private static void aPairOfTheSameTwoTurnedIsAnother() {
        SignTables x = new SignTables();
        x.pair(65, 66, 1);
        due("pair", x.pair(66, 65, 1), 2);
    }

    private static void aPairMayBeOfOneSignTwice() {
        SignTables x = withText(65, 65);
        x.pair(65, 65, 1);
        x.filter(0, 1);
        x.run();
        dueSigns("one", x, 1);
    }

    private static void aSecondStringOfARowTakesThePlaceOfTheFirst() {
        SignTables x = withText(65, 66);
        string(x, row(65, 66), 1, 2, 3);
        due("string()", string(x, row(65, 66), 4), 1);
        x.filter(0, 4);
        x.run();
        dueSigns("the second", x, 4);
    }

    private static void aStringOfABeginningOfARowIsAnother() {
        SignTables x = withText(65, 66, 65);
        string(x, row(65, 66), 1);
        due("shorter", string(x, row(65), 2), 2);
        due("longer", string(x, row(65, 66, 67), 3), 3);
        x.filter(0, 4);
        x.run();
        dueSigns("each counts", x, 1, 2);
    }

    // ---- Terms 2: THE CHAIN and SPANS

    private static void theChainGoesFromPlace0OnToPlace7() {
        SignTables x = withText(65);
        x.fold(65, 66, -1, -1);
        string(x, row(66), 67);
        x.filter(7, 4);
        x.filter(0, 0);
        x.run();
        dueSigns("0 ahead of 7", x, 67);
    }

    private static void theChainDoesNotGoBackward() {
        SignTables x = withText(65);
        x.fold(65, 66, -1, -1);
        string(x, row(66), 67);
        x.filter(0, 4);
        x.filter(7, 0);
        x.run();
        dueSigns("7 behind 0", x, 66);
    }

    private static void neighboursInTheChainGoInTheirOrder() {
        SignTables x = withText(65);
        x.fold(65, 66, -1, -1);
        x.range(66, 66);
        x.filter(3, 0);
        x.filter(4, 3);
        due("folded, then dropped", x.run(), 0);
        x.filter(3, 3);
        x.filter(4, 0);
        due("not dropped, then folded", x.run(), 1);
    }

    private static void aChainOfNoFiltersLetsAllThrough() {
        SignTables x = withText(97, 55296, 56320, 57343);
        due("run()", x.run(), 3);
        dueSigns("THE TEXT", x, 97, 65536, 57343);
    }

    private static void aChainOf8FiltersRunsAll() {
        SignTables x = withText(65);
        for (int place = 0; place < 8; place++) {
            x.fold(65 + place, 66 + place, -1, -1);
            x.filter(place, 0);
        }
        x.run();
        dueSigns("eight steps", x, 73);
    }

    private static void filtersOnAnEmptyText() {
        SignTables x = new SignTables();
        for (int kind = 0; kind <= 6; kind++) {
            x.filter(kind, kind);
        }
        due("run()", x.run(), 0);
    }

    private static void theSpanOfANarrowSignIsOneUnit() {
        SignTables x = withText(97, 98);
        x.run();
        dueSpans("one", x, 0, 1, 1, 2);
    }

    private static void theSpanOfAWideSignIsTwoUnits() {
        SignTables x = withText(55296, 56320, 98);
        x.run();
        dueSpans("two", x, 0, 2, 2, 3);
    }

    private static void theSpanOfAnAloneHalfIsOneUnit() {
        SignTables x = withText(55296, 55296, 56320, 56320);
        x.run();
        dueSpans("one", x, 0, 1, 1, 3, 3, 4);
    }

    private static void theLastSpanEndsAt100() {
        SignTables x = withText(repeated(97, 100));
        x.run();
        due("place(99, false)", x.place(99, false), 99);
        due("place(99, true)", x.place(99, true), 100);
    }

    // ---- Terms 2, kind 0: FOLDING

    private static void foldingLetsASignWithoutAFoldThrough() {
        SignTables x = withText(64, 65, 66);
        x.fold(65, 1, -1, -1);
        x.filter(0, 0);
        x.run();
        dueSigns("65 alone", x, 64, 1, 66);
        due("met(0)", x.met(0), 1);
    }

    private static void eachSignOfAFoldHasTheSpan() {
        SignTables x = withText(97, 55296, 56320);
        x.fold(65536, 1, 2, 3);
        x.filter(0, 0);
        x.run();
        dueSpans("three", x, 0, 1, 1, 3, 1, 3, 1, 3);
    }

    private static void whatAFoldBecameIsNotFoldedAgain() {
        SignTables x = withText(65);
        x.fold(65, 66, 65, -1);
        x.fold(66, 67, -1, -1);
        x.filter(0, 0);
        x.run();
        dueSigns("once", x, 66, 65);
    }

    private static void aSecondFoldingFoldsAgain() {
        SignTables x = withText(65);
        x.fold(65, 66, 65, -1);
        x.fold(66, 67, -1, -1);
        x.filter(0, 0);
        x.filter(1, 0);
        x.run();
        dueSigns("twice", x, 67, 66, 65);
    }

    // ---- Terms 2, kind 1: COMPOSING

    private static void composingHasNoneAheadOfTheFirstSign() {
        SignTables x = withText(97);
        x.pair(97, 97, 1);
        x.pair(0, 97, 2);
        x.filter(0, 1);
        x.run();
        dueSigns("alone", x, 97);
        due("met(0)", x.met(0), 0);
    }

    private static void composingAtTheEnd() {
        SignTables x = withText(98, 97, 98);
        x.pair(97, 98, 1);
        x.filter(0, 1);
        x.run();
        dueSigns("the last two", x, 98, 1);
        dueSpans("the last two", x, 0, 1, 1, 3);
    }

    private static void composingDoesNotTurnTheTwo() {
        SignTables x = withText(98, 97);
        x.pair(97, 98, 1);
        x.filter(0, 1);
        x.run();
        dueSigns("turned", x, 98, 97);
    }

    private static void whatAPairBecameIsComposedWithTheNext() {
        SignTables x = withText(97, 98, 99);
        x.pair(97, 98, 200);
        x.pair(200, 99, 201);
        x.filter(0, 1);
        x.run();
        dueSigns("one", x, 201);
        dueSpans("one", x, 0, 3);
        due("met(0)", x.met(0), 2);
    }

    private static void whatAPairBecameIsNotComposedWithTheOneAhead() {
        SignTables x = withText(96, 97, 98);
        x.pair(97, 98, 200);
        x.pair(96, 200, 201);
        x.filter(0, 1);
        x.run();
        dueSigns("two", x, 96, 200);
    }

    private static void threeOfOneSignAreComposedFromTheLeft() {
        SignTables x = withText(97, 97, 97);
        x.pair(97, 97, 98);
        x.filter(0, 1);
        x.run();
        dueSigns("from the left", x, 98, 97);
    }

    private static void aWideSignIsComposedWithItsWholeSpan() {
        SignTables x = withText(97, 55296, 56320, 98);
        x.pair(97, 65536, 1);
        x.filter(0, 1);
        x.run();
        dueSigns("composed", x, 1, 98);
        dueSpans("composed", x, 0, 3, 3, 4);
    }

    private static void whatIsNotComposedKeepsItsSpan() {
        SignTables x = withText(97, 55296, 56320, 98, 99);
        x.pair(98, 99, 1);
        x.filter(0, 1);
        x.run();
        dueSigns("the last two", x, 97, 65536, 1);
        dueSpans("the last two", x, 0, 1, 1, 3, 3, 5);
    }

    // ---- Terms 2, kind 2: DIGITS

    private static void belowAZeroIsNoDigit() {
        SignTables x = withText(1631);
        x.zero(1632);
        x.filter(0, 2);
        x.run();
        dueSigns("n - 1", x, 1631);
        due("met(0)", x.met(0), 0);
    }

    private static void aZeroIsDigit0() {
        SignTables x = withText(1632);
        x.zero(1632);
        x.filter(0, 2);
        x.run();
        dueSigns("n", x, 48);
        due("met(0)", x.met(0), 1);
    }

    private static void nineAboveAZeroIsDigit9() {
        SignTables x = withText(1641);
        x.zero(1632);
        x.filter(0, 2);
        x.run();
        dueSigns("n + 9", x, 57);
    }

    private static void tenAboveAZeroIsNoDigit() {
        SignTables x = withText(1642);
        x.zero(1632);
        x.filter(0, 2);
        x.run();
        dueSigns("n + 10", x, 1642);
    }

    private static void digitsAreOfTheZeroToldFirst() {
        SignTables x = withText(1632, 1633, 1641, 1642);
        x.zero(1633);
        x.zero(1632);
        x.filter(0, 2);
        x.run();
        dueSigns("1633 was told first", x, 48, 48, 56, 57);
    }

    private static void eachDigitKeepsItsSpan() {
        SignTables x = withText(97, 55297, 56485, 1633, 98);
        x.zero(66720);
        x.zero(1632);
        x.filter(0, 2);
        x.run();
        dueSigns("two digits", x, 97, 53, 49, 98);
        dueSpans("two digits", x, 0, 1, 1, 3, 3, 4, 4, 5);
    }

    // ---- Terms 2, kind 3: DROPPING

    private static void belowARangeStays() {
        SignTables x = withText(97);
        x.range(98, 100);
        x.filter(0, 3);
        due("run()", x.run(), 1);
        due("met(0)", x.met(0), 0);
    }

    private static void theFirstOfARangeGoes() {
        SignTables x = withText(98);
        x.range(98, 100);
        x.filter(0, 3);
        due("run()", x.run(), 0);
        due("met(0)", x.met(0), 1);
    }

    private static void theLastOfARangeGoes() {
        SignTables x = withText(100);
        x.range(98, 100);
        x.filter(0, 3);
        due("run()", x.run(), 0);
    }

    private static void aboveARangeStays() {
        SignTables x = withText(101);
        x.range(98, 100);
        x.filter(0, 3);
        due("run()", x.run(), 1);
    }

    private static void betweenTwoRangesStays() {
        SignTables x = withText(97, 98, 99);
        x.range(99, 99);
        x.range(97, 97);
        x.filter(0, 3);
        x.run();
        dueSigns("between", x, 98);
        dueSpans("between", x, 1, 2);
    }

    private static void inTwoRangesGoesOnce() {
        SignTables x = withText(97);
        x.range(90, 100);
        x.range(97, 97);
        x.filter(0, 3);
        x.run();
        due("met(0)", x.met(0), 1);
    }

    // ---- Terms 2, kind 4: REPLACING

    private static void theLongestStringCountsToldFirst() {
        SignTables x = withText(97, 98, 99);
        string(x, row(97, 98, 99), 1);
        string(x, row(97, 98), 2);
        x.filter(0, 4);
        x.run();
        dueSigns("the longest", x, 1);
    }

    private static void theLongestStringCountsToldLast() {
        SignTables x = withText(97, 98, 99);
        string(x, row(97), 1);
        string(x, row(97, 98), 2);
        string(x, row(97, 98, 99), 3);
        x.filter(0, 4);
        x.run();
        dueSigns("the longest", x, 3);
    }

    private static void theLeftStringCountsAheadOfALongerOne() {
        SignTables x = withText(97, 98, 99, 100);
        string(x, row(98, 99, 100), 1);
        string(x, row(97, 98), 2);
        x.filter(0, 4);
        x.run();
        dueSigns("from the left", x, 2, 99, 100);
    }

    private static void aStringThatTheTextCutsOffDoesNotStand() {
        SignTables x = withText(99, 97, 98);
        string(x, row(97, 98, 99), 1);
        x.filter(0, 4);
        x.run();
        dueSigns("cut off", x, 99, 97, 98);
        due("met(0)", x.met(0), 0);
    }

    private static void aStringAtTheVeryEndStands() {
        SignTables x = withText(99, 97, 98);
        string(x, row(97, 98), 1);
        x.filter(0, 4);
        x.run();
        dueSigns("at the end", x, 99, 1);
        dueSpans("at the end", x, 0, 1, 1, 3);
    }

    private static void aStringThatIsAllOfTheTextStands() {
        SignTables x = withText(97, 98);
        string(x, row(97, 98), 1);
        x.filter(0, 4);
        x.run();
        dueSigns("all", x, 1);
        dueSpans("all", x, 0, 2);
    }

    private static void aStringThatDiffersAtItsLastSignDoesNotStand() {
        SignTables x = withText(97, 98, 100);
        string(x, row(97, 98, 99), 1);
        x.filter(0, 4);
        x.run();
        dueSigns("another", x, 97, 98, 100);
    }

    private static void aStringThatDiffersAtItsFirstSignDoesNotStand() {
        SignTables x = withText(96, 98, 99);
        string(x, row(97, 98, 99), 1);
        x.filter(0, 4);
        x.run();
        dueSigns("another", x, 96, 98, 99);
    }

    private static void aStringMayBecomeNone() {
        SignTables x = withText(96, 97, 98, 99);
        string(x, row(97, 98));
        x.filter(0, 4);
        x.run();
        dueSigns("gone", x, 96, 99);
        dueSpans("gone", x, 0, 1, 3, 4);
        due("met(0)", x.met(0), 1);
    }

    private static void replacingGoesOnBehindTheString() {
        SignTables x = withText(97, 97, 97);
        string(x, row(97, 97), 98);
        x.filter(0, 4);
        x.run();
        dueSigns("the third is alone", x, 98, 97);
        due("met(0)", x.met(0), 1);
    }

    private static void twoStringsSideBySideBothStand() {
        SignTables x = withText(97, 97, 97, 97);
        string(x, row(97, 97), 98);
        x.filter(0, 4);
        x.run();
        dueSigns("two", x, 98, 98);
        due("met(0)", x.met(0), 2);
    }

    private static void whatAStringBecameIsNotReplacedAgain() {
        SignTables x = withText(97);
        string(x, row(97), 97, 97);
        x.filter(0, 4);
        x.run();
        dueSigns("once", x, 97, 97);
    }

    private static void whatAStringBecameDoesNotMakeAStringWithTheNext() {
        SignTables x = withText(97, 99);
        string(x, row(97), 98);
        string(x, row(98, 99), 1);
        x.filter(0, 4);
        x.run();
        dueSigns("the next is apart", x, 98, 99);
    }

    private static void eachSignOfAStringHasTheWholeSpan() {
        SignTables x = withText(96, 55296, 56320, 97, 55297, 56320);
        string(x, row(55296, 56320, 97, 55297, 56320), 1, 2, 3);
        x.filter(0, 4);
        x.run();
        dueSpans("from the first to the last", x, 0, 1, 1, 6, 1, 6, 1, 6);
    }

    // ---- Terms 2, kind 5: HALVES

    private static void sign55295IsNotAlone() {
        SignTables x = withText(55295);
        x.filter(0, 5);
        x.rule(0, 2);
        due("run()", x.run(), 1);
        due("met(0)", x.met(0), 0);
    }

    private static void sign55296IsTheFirstAloneOne() {
        SignTables x = withText(55296);
        x.filter(0, 5);
        x.rule(0, 2);
        due("run()", x.run(), 0);
        due("met(0)", x.met(0), 1);
    }

    private static void sign56319IsAlone() {
        SignTables x = withText(56319);
        x.filter(0, 5);
        x.rule(0, 2);
        due("run()", x.run(), 0);
    }

    private static void sign56320IsAlone() {
        SignTables x = withText(56320);
        x.filter(0, 5);
        x.rule(0, 2);
        due("run()", x.run(), 0);
    }

    private static void sign57343IsTheLastAloneOne() {
        SignTables x = withText(57343);
        x.filter(0, 5);
        x.rule(0, 2);
        due("run()", x.run(), 0);
    }

    private static void sign57344IsNotAlone() {
        SignTables x = withText(57344);
        x.filter(0, 5);
        x.rule(0, 2);
        due("run()", x.run(), 1);
    }

    private static void aWideSignIsNotAlone() {
        SignTables x = withText(55296, 56320);
        x.filter(0, 5);
        x.rule(0, 2);
        due("run()", x.run(), 1);
        due("met(0)", x.met(0), 0);
    }

    private static void rule0KeepsHalves() {
        SignTables x = withText(55296, 97);
        x.filter(0, 5);
        x.run();
        dueSigns("kept", x, 55296, 97);
    }

    private static void eachHalfKeptKeepsItsSpan() {
        SignTables x = withText(55296, 56320, 57343, 97, 55296);
        x.filter(0, 5);
        x.run();
        dueSigns("kept", x, 65536, 57343, 97, 55296);
        dueSpans("kept", x, 0, 2, 2, 3, 3, 4, 4, 5);
    }

    private static void rule1Makes65533OfHalves() {
        SignTables x = withText(55296, 97, 57343);
        x.filter(0, 5);
        x.rule(0, 1);
        x.run();
        dueSigns("replaced", x, 65533, 97, 65533);
        dueSpans("replaced", x, 0, 1, 1, 2, 2, 3);
    }

    private static void rule2LetsHalvesGo() {
        SignTables x = withText(55296, 97, 57343);
        x.filter(0, 5);
        x.rule(0, 2);
        x.run();
        dueSigns("gone", x, 97);
        dueSpans("gone", x, 1, 2);
    }

    // ---- Terms 2, kind 6: WIDTHS

    private static void sign65280StaysWide() {
        SignTables x = withText(65280);
        x.filter(0, 6);
        x.run();
        dueSigns("65280", x, 65280);
        due("met(0)", x.met(0), 0);
    }

    private static void sign65281IsTheFirstWideOne() {
        SignTables x = withText(65281);
        x.filter(0, 6);
        x.run();
        dueSigns("33", x, 33);
        due("met(0)", x.met(0), 1);
    }

    private static void sign65374IsTheLastWideOne() {
        SignTables x = withText(65374);
        x.filter(0, 6);
        x.run();
        dueSigns("126", x, 126);
    }

    private static void sign65375StaysWide() {
        SignTables x = withText(65375);
        x.filter(0, 6);
        x.run();
        dueSigns("65375", x, 65375);
    }

    private static void sign12288BecomesABlank() {
        SignTables x = withText(12288);
        x.filter(0, 6);
        x.run();
        dueSigns("32", x, 32);
        due("met(0)", x.met(0), 1);
    }

    private static void sign12287Stays() {
        SignTables x = withText(12287);
        x.filter(0, 6);
        x.run();
        dueSigns("12287", x, 12287);
    }

    private static void sign12289Stays() {
        SignTables x = withText(12289);
        x.filter(0, 6);
        x.run();
        dueSigns("12289", x, 12289);
    }

    private static void eachSignOfWidthsKeepsItsSpan() {
        SignTables x = withText(55296, 56320, 65281, 97, 12288);
        x.filter(0, 6);
        x.run();
        dueSigns("narrow", x, 65536, 33, 97, 32);
        dueSpans("narrow", x, 0, 2, 2, 3, 3, 4, 4, 5);
    }

    // ---- Terms 2: MET also if nothing changed

    private static void foldingOfASignToItselfIsMet() {
        SignTables x = withText(65);
        x.fold(65, 65, -1, -1);
        x.filter(0, 0);
        x.run();
        due("met(0)", x.met(0), 1);
    }

    private static void composingToTheSameSignIsMet() {
        SignTables x = withText(97, 97, 97);
        x.pair(97, 97, 97);
        x.filter(0, 1);
        due("run()", x.run(), 1);
        due("met(0)", x.met(0), 2);
    }

    private static void aPlainDigitIsMet() {
        SignTables x = withText(48, 57);
        x.zero(48);
        x.filter(0, 2);
        x.run();
        dueSigns("as they were", x, 48, 57);
        due("met(0)", x.met(0), 2);
    }

    private static void replacingOfARowByItselfIsMetOnce() {
        SignTables x = withText(97, 98, 99);
        string(x, row(97, 98, 99), 97, 98, 99);
        x.filter(0, 4);
        due("run()", x.run(), 3);
        due("met(0)", x.met(0), 1);
    }

    private static void halvesKeptAreMet() {
        SignTables x = withText(55296, 97);
        x.filter(0, 5);
        x.run();
        due("met(0)", x.met(0), 1);
    }

    public static void main(String[] args) {
        runCases(TermBoundaries.class);
    }
}
