/** The boundary cases of promises 1 to 12 (what is told to an object), each a method of its own. */
public final class TellingBoundaries extends Checks {
    private static final int LAST = 1114111;
    private static final int BEYOND = 1114112;

    // ---- what the tests below have in common

    private static SignTables withFolds(int folds) {
        SignTables x = new SignTables();
        for (int i = 0; i < folds; i++) {
            x.fold(1000 + i, i, -1, -1);
        }
        return x;
    }

    private static SignTables withPairs(int pairs) {
        SignTables x = new SignTables();
        for (int i = 0; i < pairs; i++) {
            x.pair(1000, 1000 + i, i);
        }
        return x;
    }

    private static SignTables withZeros(int zeros) {
        SignTables x = new SignTables();
        for (int i = 0; i < zeros; i++) {
            x.zero(1000 + 10 * i);
        }
        return x;
    }

    private static SignTables withRanges(int ranges) {
        SignTables x = new SignTables();
        for (int i = 0; i < ranges; i++) {
            x.range(1000 + 10 * i, 1004 + 10 * i);
        }
        return x;
    }

    private static SignTables withStrings(int strings) {
        SignTables x = new SignTables();
        for (int i = 0; i < strings; i++) {
            string(x, row(1000 + i), i);
        }
        return x;
    }

    private static void dueThrough(SignTables x, int kind, int[] text, int... signs) {
        retext(x, text);
        x.filter(0, kind);
        x.run();
        dueSigns("through kind " + kind, x, signs);
    }

    private static void dueBadFold(int sign, int a, int b, int c) {
        SignTables x = new SignTables();
        x.fold(65, 1, 2, 3);
        String before = picture(x);
        due("fold(" + sign + ", " + a + ", " + b + ", " + c + ")", x.fold(sign, a, b, c), SignTables.BAD);
        dueSame("all", picture(x), before);
        dueThrough(x, 0, row(65), 1, 2, 3);
    }

    private static void dueBadPair(int first, int second, int sign) {
        SignTables x = new SignTables();
        x.pair(65, 66, 1);
        String before = picture(x);
        due("pair(" + first + ", " + second + ", " + sign + ")", x.pair(first, second, sign), SignTables.BAD);
        dueSame("all", picture(x), before);
        dueThrough(x, 1, row(65, 66), 1);
    }

    private static void dueBadZero(int sign) {
        SignTables x = new SignTables();
        x.zero(48);
        String before = picture(x);
        due("zero(" + sign + ")", x.zero(sign), SignTables.BAD);
        dueSame("all", picture(x), before);
        due("digit(" + sign + ")", x.digit(sign), -9);
        due("digit(" + LAST + ")", x.digit(LAST), -9);
        due("digit(49)", x.digit(49), 1);
    }

    private static void dueBadRange(int first, int last) {
        SignTables x = new SignTables();
        x.range(65, 65);
        String before = picture(x);
        due("range(" + first + ", " + last + ")", x.range(first, last), SignTables.BAD);
        dueSame("all", picture(x), before);
        dueThrough(x, 3, row(0, 64, 65, 66, 55295, 65535), 0, 64, 66, 55295, 65535);
    }

    private static void dueBadString(SignTables x, String all) {
        due("string()", x.string(), SignTables.BAD);
        dueSame("all", picture(x), all);
    }

    /** A chain with HALVES of RULE 1 at 0, FOLDING at 1, none at 2; its run is told. */
    private static SignTables withChain() {
        SignTables x = withText(65, 55296);
        x.fold(65, 66, 67, -1);
        x.filter(0, 5);
        x.rule(0, 1);
        x.filter(1, 0);
        x.run();
        return x;
    }

    private static void dueChainAsItWas(SignTables x) {
        due("count(7)", x.count(7), 2);
        due("met(0)", x.met(0), 1);
        due("met(1)", x.met(1), 1);
        due("grown(1)", x.grown(1), 1);
        x.run();
        dueSigns("as it was", x, 66, 67, 65533);
        due("RULE", x.rule(0, 1), 1);
    }

    private static void dueRefusedFilter(int place, int kind, int answer) {
        SignTables x = withChain();
        String before = picture(x);
        due("filter(" + place + ", " + kind + ")", x.filter(place, kind), answer);
        dueSame("all", picture(x), before);
        dueChainAsItWas(x);
    }

    private static void dueRefusedDrop(int place) {
        SignTables x = withChain();
        String before = picture(x);
        due("drop(" + place + ")", x.drop(place), SignTables.INDEX);
        dueSame("all", picture(x), before);
        dueChainAsItWas(x);
    }

    private static void dueRefusedRule(int place, int rule, int answer) {
        SignTables x = withChain();
        String before = picture(x);
        due("rule(" + place + ", " + rule + ")", x.rule(place, rule), answer);
        dueSame("all", picture(x), before);
        dueChainAsItWas(x);
    }

    // ---- Promise 1

    private static void p01NothingIsTold() {
        SignTables x = new SignTables();
        for (int what = 0; what <= 8; what++) {
            due("count(" + what + ")", x.count(what), 0);
        }
    }

    private static void p01NoFilterIsAtAnyPlace() {
        SignTables x = new SignTables();
        for (int place = 0; place < 8; place++) {
            due("met(" + place + ")", x.met(place), SignTables.NULL);
        }
    }

    private static void p01TheTextIsEmpty() {
        SignTables x = new SignTables();
        due("run()", x.run(), 0);
        due("units()", x.units(), 0);
    }

    private static void p01NothingCameOut() {
        SignTables x = new SignTables();
        due("sign(0)", x.sign(0), SignTables.INDEX);
        due("place(0, false)", x.place(0, false), SignTables.INDEX);
        due("unitAt(0)", x.unitAt(0), SignTables.INDEX);
        due("units()", x.units(), 0);
        due("broken(0)", x.broken(0), 1);
        due("broken(1)", x.broken(1), SignTables.INDEX);
    }

    private static void p01NoObjectKnowsAnother() {
        SignTables x = withChain();
        SignTables y = new SignTables();
        dueSame("a new one", picture(y), picture(new SignTables()));
        y.unit(97);
        dueChainAsItWas(x);
    }

    private static void p01NoSignIsADigit() {
        due("digit(48)", new SignTables().digit(48), -9);
    }

    // ---- Promise 2

    private static void p02TheFirstUnit() {
        due("unit(97)", new SignTables().unit(97), 1);
    }

    private static void p02Unit65536Is0() {
        SignTables x = new SignTables();
        due("unit(65536)", x.unit(65536), 1);
        dueThrough(x, 0, row(), 0);
    }

    private static void p02Unit65537Is1() {
        SignTables x = new SignTables();
        due("unit(65537)", x.unit(65537), 1);
        dueThrough(x, 0, row(), 1);
    }

    private static void p02UnitBelow0IsItsLowest16Bits() {
        SignTables x = new SignTables();
        due("unit(-1)", x.unit(-1), 1);
        due("unit(-65535)", x.unit(-65535), 2);
        due("unit(-65536)", x.unit(-65536), 3);
        dueThrough(x, 0, row(), 65535, 1, 0);
    }

    private static void p02TheSmallestIntIs0() {
        SignTables x = new SignTables();
        due("unit(MIN)", x.unit(Integer.MIN_VALUE), 1);
        dueThrough(x, 0, row(), 0);
    }

    private static void p02TheLargestIntIs65535() {
        SignTables x = new SignTables();
        due("unit(MAX)", x.unit(Integer.MAX_VALUE), 1);
        dueThrough(x, 0, row(), 65535);
    }

    private static void p02HalvesByTheirLowest16BitsAreOneSign() {
        SignTables x = new SignTables();
        draft(x, 65536 + 55296, 56320 - 65536);
        due("text()", x.text(), 1);
    }

    private static void p02The100thUnitComesIn() {
        SignTables x = new SignTables();
        draft(x, repeated(97, 99));
        due("unit", x.unit(98), 100);
        due("count(0)", x.count(0), 100);
        x.text();
        x.run();
        due("sign(99)", x.sign(99), 98);
    }

    private static void p02The101stUnitIsFull() {
        SignTables x = new SignTables();
        draft(x, repeated(97, 100));
        due("unit", x.unit(98), SignTables.FULL);
        due("count(0)", x.count(0), 100);
        due("text()", x.text(), 100);
        x.run();
        due("sign(99)", x.sign(99), 97);
    }

    private static void p02FullLeavesTheMark() {
        SignTables x = new SignTables();
        draft(x, repeated(97, 60));
        x.mark();
        draft(x, repeated(98, 40));
        due("unit", x.unit(98), SignTables.FULL);
        due("string()", x.string(), 1);
        draft(x, repeated(97, 60));
        dueThrough(x, 4, row(), repeated(98, 40));
    }

    private static void p02AfterTextThereIsRoomAgain() {
        SignTables x = new SignTables();
        draft(x, repeated(97, 100));
        x.text();
        due("unit", x.unit(98), 1);
    }

    private static void p02AfterStringThereIsRoomAgain() {
        SignTables x = new SignTables();
        draft(x, repeated(97, 100));
        x.mark();
        x.string();
        due("unit", x.unit(98), 1);
    }

    // ---- Promise 3

    private static void p03MarkOfAnEmptyDraft() {
        due("mark()", new SignTables().mark(), 0);
    }

    private static void p03MarkOfOneUnit() {
        SignTables x = new SignTables();
        x.unit(97);
        due("mark()", x.mark(), 1);
    }

    private static void p03MarkOfAFullDraft() {
        SignTables x = new SignTables();
        draft(x, repeated(97, 100));
        due("mark()", x.mark(), 100);
    }

    private static void p03MarkTellsUnitsNotSigns() {
        SignTables x = new SignTables();
        draft(x, 55296, 56320);
        due("mark()", x.mark(), 2);
    }

    private static void p03ALaterMarkTakesThePlaceOfTheFirst() {
        SignTables x = new SignTables();
        x.unit(97);
        x.mark();
        x.unit(98);
        due("mark()", x.mark(), 2);
        due("string()", x.string(), 1);
        dueThrough(x, 4, row(97, 97, 98), 97);
    }

    private static void p03MarkTwiceAtOnePlace() {
        SignTables x = new SignTables();
        x.unit(97);
        x.mark();
        due("mark()", x.mark(), 1);
    }

    private static void p03MarkLeavesTheDraft() {
        SignTables x = new SignTables();
        draft(x, 97, 98);
        x.mark();
        due("count(0)", x.count(0), 2);
        due("unit(99)", x.unit(99), 3);
    }

    // ---- Promise 4

    private static void p04TextOfAnEmptyDraft() {
        SignTables x = new SignTables();
        due("text()", x.text(), 0);
        due("count(1)", x.count(1), 0);
    }

    private static void p04AnEmptyTextTakesThePlaceOfTheFirst() {
        SignTables x = withText(97);
        due("text()", x.text(), 0);
        due("run()", x.run(), 0);
    }

    private static void p04TextOfAFullDraft() {
        SignTables x = new SignTables();
        draft(x, repeated(97, 100));
        due("text()", x.text(), 100);
        due("count(1)", x.count(1), 100);
        due("run()", x.run(), 100);
    }

    private static void p04TextOf50WideSigns() {
        SignTables x = new SignTables();
        for (int i = 0; i < 50; i++) {
            draft(x, 55296, 56320);
        }
        due("text()", x.text(), 50);
        due("run()", x.run(), 50);
        due("units()", x.units(), 100);
    }

    private static void p04TheDraftIsEmptyThen() {
        SignTables x = withText(97, 98);
        due("count(0)", x.count(0), 0);
        due("unit(99)", x.unit(99), 1);
    }

    private static void p04TheMarkDoesNotPartAText() {
        SignTables x = new SignTables();
        x.unit(55296);
        x.mark();
        x.unit(56320);
        due("text()", x.text(), 1);
    }

    private static void p04WhatCameOutStays() {
        SignTables x = withText(97, 98);
        x.run();
        retext(x, 99);
        dueSigns("of the latest run", x, 97, 98);
    }

    // ---- Promise 5

    private static void p05StringOfAnEmptyDraftIsBad() {
        SignTables x = new SignTables();
        x.mark();
        dueBadString(x, picture(x));
    }

    private static void p05StringWithoutAMarkIsBad() {
        SignTables x = new SignTables();
        draft(x, 97, 98);
        dueBadString(x, picture(x));
    }

    private static void p05StringWithTheMarkAtTheBeginningIsBad() {
        SignTables x = new SignTables();
        x.mark();
        draft(x, 97, 98);
        dueBadString(x, picture(x));
    }

    private static void p05BadLeavesTheUnitsOfTheDraft() {
        SignTables x = new SignTables();
        draft(x, 97, 98);
        due("string()", x.string(), SignTables.BAD);
        due("unit(99)", x.unit(99), 3);
        dueThrough(x, 0, row(), 97, 98, 99);
    }

    private static void p05OneSignAheadOfTheMark() {
        SignTables x = new SignTables();
        due("string()", string(x, row(97), 98, 99), 1);
        due("count(0)", x.count(0), 0);
        dueThrough(x, 4, row(97), 98, 99);
    }

    private static void p05NoneBehindTheMark() {
        SignTables x = new SignTables();
        due("string()", string(x, row(97, 98)), 1);
        due("count(0)", x.count(0), 0);
        dueThrough(x, 4, row(97, 98, 99), 99);
    }

    private static void p05AFullDraftAheadOfTheMark() {
        SignTables x = new SignTables();
        due("string()", string(x, repeated(97, 100)), 1);
        dueThrough(x, 4, repeated(97, 100));
        due("met(0)", x.met(0), 1);
    }

    private static void p05AFullDraftBut1AheadOfTheMark() {
        SignTables x = new SignTables();
        due("string()", string(x, repeated(97, 99), 98), 1);
        dueThrough(x, 4, repeated(97, 99), 98);
    }

    private static void p05AFullDraftBut1BehindTheMark() {
        SignTables x = new SignTables();
        due("string()", string(x, row(98), repeated(97, 99)), 1);
        dueThrough(x, 4, row(98), repeated(97, 99));
    }

    private static void p05HalvesOnEachSideOfTheMarkAreOneSign() {
        SignTables x = new SignTables();
        string(x, row(55296, 56320), 55297, 56321);
        dueThrough(x, 4, row(55296, 56320), 66561);
    }

    private static void p05TheMarkBetweenHalvesPartsThem() {
        SignTables x = new SignTables();
        due("string()", string(x, row(55296), 56320), 1);
        dueThrough(x, 4, row(55296), 56320);
    }

    private static void p05AHighHalfIsNoBeginningOfAWideSign() {
        SignTables x = new SignTables();
        string(x, row(55296), 49);
        dueThrough(x, 4, row(55296, 56320, 55296), 65536, 49);
    }

    private static void p05The20thStringComesIn() {
        SignTables x = withStrings(19);
        due("string()", string(x, row(1019), 19), 20);
        dueThrough(x, 4, row(1019), 19);
    }

    private static void p05The21stStringIsFull() {
        SignTables x = withStrings(20);
        due("string()", string(x, row(1020), 20), SignTables.FULL);
        due("count(6)", x.count(6), 20);
        due("count(0)", x.count(0), 2);
    }

    private static void p05FullLeavesTheUnitsOfTheDraft() {
        SignTables x = withStrings(20);
        string(x, row(1020), 20);
        due("unit(21)", x.unit(21), 3);
        x.text();
        x.run();
        dueSigns("the draft", x, 1020, 20, 21);
    }

    private static void p05FullLeavesTheMark() {
        SignTables x = withStrings(20);
        string(x, row(1020), 20);
        due("again", x.string(), SignTables.FULL);
    }

    private static void p05FullLeavesTheStrings() {
        SignTables x = withStrings(20);
        string(x, row(1020), 20);
        x.text();
        dueThrough(x, 4, row(1020, 1019, 1000), 1020, 19, 0);
    }

    private static void p05OneOf20AgainIsNotFull() {
        SignTables x = withStrings(20);
        due("the first", string(x, row(1000), 500), 20);
        due("the last", string(x, row(1019), 519), 20);
        due("count(0)", x.count(0), 0);
        dueThrough(x, 4, row(1000, 1019, 1001), 500, 519, 1);
    }

    private static void p05ABeginningOfOneOf20IsAnother() {
        SignTables x = withStrings(19);
        string(x, row(2000, 2001), 20);
        due("a beginning", string(x, row(2000), 21), SignTables.FULL);
        x.text();
        due("a longer one", string(x, row(2000, 2001, 2002), 21), SignTables.FULL);
    }

    private static void p05BadComesAheadOfFull() {
        SignTables x = withStrings(20);
        x.unit(97);
        due("string()", x.string(), SignTables.BAD);
        due("count(6)", x.count(6), 20);
        due("count(0)", x.count(0), 1);
    }

    private static void p05ASecondOneOfARowCountsOnce() {
        SignTables x = new SignTables();
        string(x, row(97), 1);
        due("string()", string(x, row(97), 1), 1);
    }

    // ---- Promise 6

    private static void p06FoldOfSign0() {
        SignTables x = new SignTables();
        due("fold(0)", x.fold(0, 1, -1, -1), 1);
        dueThrough(x, 0, row(0), 1);
    }

    private static void p06FoldOfTheLastSign() {
        SignTables x = new SignTables();
        due("fold(LAST)", x.fold(LAST, 1, -1, -1), 1);
        dueThrough(x, 0, row(56319, 57343), 1);
    }

    private static void p06FoldToSign0() {
        SignTables x = new SignTables();
        due("fold(65, 0, 0, 0)", x.fold(65, 0, 0, 0), 1);
        dueThrough(x, 0, row(65), 0, 0, 0);
    }

    private static void p06FoldToTheLastSign() {
        SignTables x = new SignTables();
        due("fold", x.fold(65, LAST, LAST, LAST), 1);
        dueThrough(x, 0, row(65), LAST, LAST, LAST);
    }

    private static void p06SignBelow0IsBad() {
        dueBadFold(-1, 1, 2, 3);
    }

    private static void p06SignBeyondTheLastIsBad() {
        dueBadFold(BEYOND, 1, 2, 3);
    }

    private static void p06SignAtTheEndsOfIntIsBad() {
        for (int sign : endsOfInt()) {
            dueBadFold(sign, 1, 2, 3);
        }
    }

    private static void p06ABelowMinus1IsBad() {
        dueBadFold(65, -2, -1, -1);
    }

    private static void p06BBelowMinus1IsBad() {
        dueBadFold(65, 4, -2, -1);
    }

    private static void p06CBelowMinus1IsBad() {
        dueBadFold(65, 4, 5, -2);
    }

    private static void p06ABeyondTheLastIsBad() {
        dueBadFold(65, BEYOND, -1, -1);
    }

    private static void p06BBeyondTheLastIsBad() {
        dueBadFold(65, 4, BEYOND, -1);
    }

    private static void p06CBeyondTheLastIsBad() {
        dueBadFold(65, 4, 5, BEYOND);
    }

    private static void p06PartsAtTheEndsOfIntAreBad() {
        for (int sign : endsOfInt()) {
            dueBadFold(65, sign, -1, -1);
            dueBadFold(65, 4, sign, -1);
            dueBadFold(65, 4, 5, sign);
        }
    }

    private static void p06BBehindNoAIsBad() {
        dueBadFold(65, -1, 4, -1);
    }

    private static void p06CBehindNoAIsBad() {
        dueBadFold(65, -1, -1, 4);
    }

    private static void p06CBehindNoBIsBad() {
        dueBadFold(65, 4, -1, 5);
    }

    private static void p06BothBehindNoAAreBad() {
        dueBadFold(65, -1, 4, 5);
    }

    private static void p06NoSignBehindNoneIsBadWhateverItIs() {
        dueBadFold(65, -1, -2, -1);
        dueBadFold(65, -1, -1, BEYOND);
    }

    private static void p06The40thFoldComesIn() {
        SignTables x = withFolds(39);
        due("fold", x.fold(1039, 39, -1, -1), 40);
        dueThrough(x, 0, row(1039), 39);
    }

    private static void p06The41stFoldIsFull() {
        SignTables x = withFolds(40);
        String before = picture(x);
        due("fold", x.fold(1040, 40, -1, -1), SignTables.FULL);
        dueSame("all", picture(x), before);
        dueThrough(x, 0, row(1040, 1039, 1000), 1040, 39, 0);
    }

    private static void p06OneOf40AgainIsNotFull() {
        SignTables x = withFolds(40);
        due("the first", x.fold(1000, 500, -1, -1), 40);
        due("the last", x.fold(1039, 539, -1, -1), 40);
        dueThrough(x, 0, row(1000, 1039, 1001), 500, 539, 1);
    }

    private static void p06BadComesAheadOfFull() {
        SignTables x = withFolds(40);
        due("fold", x.fold(1040, -2, -1, -1), SignTables.BAD);
        due("count(2)", x.count(2), 40);
    }

    private static void p06ASecondOneThatIsBadLeavesTheFirst() {
        SignTables x = withFolds(40);
        due("fold", x.fold(1000, -1, 1, -1), SignTables.BAD);
        dueThrough(x, 0, row(1000), 0);
    }

    // ---- Promise 7

    private static void p07PairOfSigns0() {
        SignTables x = new SignTables();
        due("pair", x.pair(0, 0, 0), 1);
        dueThrough(x, 1, row(0, 0, 0), 0);
    }

    private static void p07PairOfTheLastSigns() {
        SignTables x = new SignTables();
        due("pair", x.pair(LAST, LAST, LAST), 1);
        dueThrough(x, 1, row(56319, 57343, 56319, 57343), LAST);
    }

    private static void p07FirstBelow0IsBad() {
        dueBadPair(-1, 66, 2);
    }

    private static void p07SecondBelow0IsBad() {
        dueBadPair(65, -1, 2);
    }

    private static void p07SignBelow0IsBad() {
        dueBadPair(65, 66, -1);
    }

    private static void p07FirstBeyondTheLastIsBad() {
        dueBadPair(BEYOND, 66, 2);
    }

    private static void p07SecondBeyondTheLastIsBad() {
        dueBadPair(65, BEYOND, 2);
    }

    private static void p07SignBeyondTheLastIsBad() {
        dueBadPair(65, 66, BEYOND);
    }

    private static void p07TheEndsOfIntAreBad() {
        for (int sign : endsOfInt()) {
            dueBadPair(sign, 66, 2);
            dueBadPair(65, sign, 2);
            dueBadPair(65, 66, sign);
        }
    }

    private static void p07The20thPairComesIn() {
        SignTables x = withPairs(19);
        due("pair", x.pair(1000, 1019, 19), 20);
        dueThrough(x, 1, row(1000, 1019), 19);
    }

    private static void p07The21stPairIsFull() {
        SignTables x = withPairs(20);
        String before = picture(x);
        due("pair", x.pair(1000, 1020, 20), SignTables.FULL);
        dueSame("all", picture(x), before);
        dueThrough(x, 1, row(1000, 1020, 1000, 1019), 1000, 1020, 19);
    }

    private static void p07OneOf20AgainIsNotFull() {
        SignTables x = withPairs(20);
        due("the first", x.pair(1000, 1000, 500), 20);
        due("the last", x.pair(1000, 1019, 519), 20);
        dueThrough(x, 1, row(1000, 1000, 1000, 1019, 1000, 1001), 500, 519, 1);
    }

    private static void p07OneWithTheSameFirstIsAnother() {
        SignTables x = withPairs(20);
        due("pair", x.pair(1000, 999, 1), SignTables.FULL);
    }

    private static void p07OneWithTheSameSecondIsAnother() {
        SignTables x = withPairs(20);
        due("pair", x.pair(999, 1000, 1), SignTables.FULL);
    }

    private static void p07BadComesAheadOfFull() {
        SignTables x = withPairs(20);
        due("pair", x.pair(1000, 1020, -1), SignTables.BAD);
        due("count(3)", x.count(3), 20);
    }

    // ---- Promise 8

    private static void p08ZeroAt0() {
        SignTables x = new SignTables();
        due("zero(0)", x.zero(0), 1);
        due("digit(0)", x.digit(0), 0);
        due("digit(9)", x.digit(9), 9);
    }

    private static void p08ZeroBelow0IsBad() {
        dueBadZero(-1);
    }

    private static void p08TheLastZeroHasTheLastSign() {
        SignTables x = new SignTables();
        due("zero", x.zero(1114102), 1);
        due("digit(LAST)", x.digit(LAST), 9);
    }

    private static void p08AZeroWhoseNineIsNoSignIsBad() {
        dueBadZero(1114103);
    }

    private static void p08TheLastSignAsAZeroIsBad() {
        dueBadZero(LAST);
    }

    private static void p08ZeroBeyondTheLastSignIsBad() {
        dueBadZero(BEYOND);
    }

    private static void p08TheEndsOfIntAreBad() {
        for (int sign : endsOfInt()) {
            dueBadZero(sign);
        }
        dueBadZero(Integer.MAX_VALUE - 9);
    }

    private static void p08The10thZeroComesIn() {
        SignTables x = withZeros(9);
        due("zero", x.zero(1090), 10);
        due("digit(1090)", x.digit(1090), 0);
    }

    private static void p08The11thZeroIsFull() {
        SignTables x = withZeros(10);
        String before = picture(x);
        due("zero", x.zero(1100), SignTables.FULL);
        dueSame("all", picture(x), before);
        due("digit(1100)", x.digit(1100), -9);
        due("digit(1099)", x.digit(1099), 9);
    }

    private static void p08BadComesAheadOfFull() {
        SignTables x = withZeros(10);
        due("zero", x.zero(1114103), SignTables.BAD);
        due("count(4)", x.count(4), 10);
    }

    private static void p08OneThatOverlapsIsOneMore() {
        SignTables x = new SignTables();
        x.zero(1000);
        due("zero(1009)", x.zero(1009), 2);
        due("zero(991)", x.zero(991), 3);
    }

    // ---- Promise 9

    private static void p09RangeOfSign0() {
        SignTables x = new SignTables();
        due("range(0, 0)", x.range(0, 0), 1);
        dueThrough(x, 3, row(0, 1), 1);
    }

    private static void p09RangeOfTheLastSign() {
        SignTables x = new SignTables();
        due("range", x.range(LAST, LAST), 1);
        dueThrough(x, 3, row(56319, 57342, 56319, 57343), 1114110);
    }

    private static void p09RangeOfAllSigns() {
        SignTables x = new SignTables();
        due("range", x.range(0, LAST), 1);
        dueThrough(x, 3, row(0, 97, 65535, 55296, 56319, 57343));
    }

    private static void p09TheLastOneBelowTheFirstIsBad() {
        dueBadRange(66, 65);
    }

    private static void p09FirstBelow0IsBad() {
        dueBadRange(-1, 64);
    }

    private static void p09LastBelow0IsBad() {
        dueBadRange(64, -1);
    }

    private static void p09BothBelow0AreBad() {
        dueBadRange(-2, -1);
    }

    private static void p09LastBeyondTheLastSignIsBad() {
        dueBadRange(64, BEYOND);
    }

    private static void p09BothBeyondTheLastSignAreBad() {
        dueBadRange(BEYOND, BEYOND + 1);
    }

    private static void p09TheEndsOfIntAreBad() {
        dueBadRange(Integer.MIN_VALUE, Integer.MAX_VALUE);
        dueBadRange(Integer.MAX_VALUE, Integer.MIN_VALUE);
        dueBadRange(0, Integer.MAX_VALUE);
        dueBadRange(Integer.MIN_VALUE, 0);
    }

    private static void p09The8thRangeComesIn() {
        SignTables x = withRanges(7);
        due("range", x.range(1070, 1074), 8);
        dueThrough(x, 3, row(1070, 1074, 1075), 1075);
    }

    private static void p09The9thRangeIsFull() {
        SignTables x = withRanges(8);
        String before = picture(x);
        due("range", x.range(1080, 1084), SignTables.FULL);
        dueSame("all", picture(x), before);
        dueThrough(x, 3, row(1080, 1074, 1000), 1080);
    }

    private static void p09BadComesAheadOfFull() {
        SignTables x = withRanges(8);
        due("range", x.range(1084, 1080), SignTables.BAD);
        due("count(5)", x.count(5), 8);
    }

    private static void p09OneThatOverlapsIsOneMore() {
        SignTables x = new SignTables();
        x.range(1000, 1010);
        due("range(1010, 1020)", x.range(1010, 1020), 2);
        due("range(1005, 1005)", x.range(1005, 1005), 3);
    }

    // ---- Promise 10

    private static void p10KindBelow0IsBad() {
        dueRefusedFilter(0, -1, SignTables.BAD);
    }

    private static void p10Kind0IsTheFirst() {
        SignTables x = new SignTables();
        due("filter(0, 0)", x.filter(0, 0), 0);
        due("grown(0)", x.grown(0), 0);
    }

    private static void p10Kind6IsTheLast() {
        SignTables x = withText(65281);
        due("filter(0, 6)", x.filter(0, 6), 0);
        x.run();
        dueSigns("narrow", x, 33);
    }

    private static void p10Kind7IsBad() {
        dueRefusedFilter(0, 7, SignTables.BAD);
    }

    private static void p10KindsAtTheEndsOfIntAreBad() {
        for (int kind : endsOfInt()) {
            dueRefusedFilter(1, kind, SignTables.BAD);
        }
    }

    private static void p10PlaceBelow0IsIndex() {
        dueRefusedFilter(-1, 0, SignTables.INDEX);
    }

    private static void p10Place0IsTheFirst() {
        SignTables x = new SignTables();
        due("filter(0, 1)", x.filter(0, 1), 0);
        due("met(0)", x.met(0), 0);
    }

    private static void p10Place7IsTheLast() {
        SignTables x = new SignTables();
        due("filter(7, 1)", x.filter(7, 1), 0);
        due("met(7)", x.met(7), 0);
    }

    private static void p10Place8IsIndex() {
        dueRefusedFilter(8, 0, SignTables.INDEX);
    }

    private static void p10PlacesAtTheEndsOfIntAreIndex() {
        for (int place : endsOfInt()) {
            dueRefusedFilter(place, 0, SignTables.INDEX);
        }
    }

    private static void p10BadComesAheadOfIndex() {
        dueRefusedFilter(8, 7, SignTables.BAD);
    }

    private static void p10ANewHalvesHasRule0() {
        SignTables x = new SignTables();
        x.filter(0, 5);
        due("rule(0, 0)", x.rule(0, 0), 0);
    }

    private static void p10HalvesInPlaceOfHalvesHaveRule0() {
        SignTables x = withChain();
        due("filter(0, 5)", x.filter(0, 5), 0);
        due("count(7)", x.count(7), 2);
        due("rule(0, 2)", x.rule(0, 2), 0);
    }

    private static void p10ANewOneOfTheSameKindHasMet0() {
        SignTables x = withChain();
        due("filter(1, 0)", x.filter(1, 0), 0);
        due("met(1)", x.met(1), 0);
        due("grown(1)", x.grown(1), 0);
    }

    private static void p10ANewOneOfAnotherKindIsNotTheFirst() {
        SignTables x = withChain();
        due("filter(1, 5)", x.filter(1, 5), 0);
        due("grown(1)", x.grown(1), SignTables.CAST);
        due("rule(1, 0)", x.rule(1, 0), 0);
        due("filter(0, 0)", x.filter(0, 0), 0);
        due("rule(0, 0)", x.rule(0, 0), SignTables.CAST);
        due("grown(0)", x.grown(0), 0);
    }

    private static void p10WhatCameOutStays() {
        SignTables x = withChain();
        x.filter(1, 3);
        dueSigns("of the latest run", x, 66, 67, 65533);
    }

    private static void p10EachPlaceTakesOne() {
        SignTables x = new SignTables();
        for (int place = 0; place < 8; place++) {
            due("filter(" + place + ", 6)", x.filter(place, 6), 0);
            due("count(7)", x.count(7), place + 1);
        }
    }

    // ---- Promise 11

    private static void p11PlaceBelow0IsIndex() {
        dueRefusedDrop(-1);
    }

    private static void p11Place8IsIndex() {
        dueRefusedDrop(8);
    }

    private static void p11PlacesAtTheEndsOfIntAreIndex() {
        for (int place : endsOfInt()) {
            dueRefusedDrop(place);
        }
    }

    private static void p11DropWhereThereWasNone() {
        SignTables x = withChain();
        String before = picture(x);
        due("drop(2)", x.drop(2), 0);
        dueSame("all", picture(x), before);
    }

    private static void p11DropAtPlace0() {
        SignTables x = withChain();
        due("drop(0)", x.drop(0), 1);
        due("met(0)", x.met(0), SignTables.NULL);
        due("count(7)", x.count(7), 1);
        x.run();
        dueSigns("HALVES are none any more", x, 66, 67, 55296);
    }

    private static void p11DropAtPlace7() {
        SignTables x = new SignTables();
        x.filter(7, 0);
        due("drop(7)", x.drop(7), 1);
        due("met(7)", x.met(7), SignTables.NULL);
    }

    private static void p11DropTwice() {
        SignTables x = withChain();
        x.drop(1);
        due("drop(1)", x.drop(1), 0);
        due("count(7)", x.count(7), 1);
    }

    private static void p11ADroppedRuleDoesNotComeBack() {
        SignTables x = withChain();
        x.drop(0);
        due("rule(0, 1)", x.rule(0, 1), SignTables.NULL);
        x.filter(0, 5);
        due("rule(0, 1)", x.rule(0, 1), 0);
    }

    private static void p11ADroppedMetDoesNotComeBack() {
        SignTables x = withChain();
        x.drop(1);
        x.filter(1, 0);
        due("met(1)", x.met(1), 0);
        due("grown(1)", x.grown(1), 0);
    }

    private static void p11WhatCameOutStays() {
        SignTables x = withChain();
        x.drop(1);
        dueSigns("of the latest run", x, 66, 67, 65533);
    }

    // ---- Promise 12

    private static void p12RuleBelow0IsBad() {
        dueRefusedRule(0, -1, SignTables.BAD);
    }

    private static void p12Rule3IsBad() {
        dueRefusedRule(0, 3, SignTables.BAD);
    }

    private static void p12RulesAtTheEndsOfIntAreBad() {
        for (int rule : endsOfInt()) {
            dueRefusedRule(0, rule, SignTables.BAD);
        }
    }

    private static void p12Rule0IsTheFirst() {
        SignTables x = withChain();
        due("rule(0, 0)", x.rule(0, 0), 1);
        due("rule(0, 0)", x.rule(0, 0), 0);
    }

    private static void p12Rule2IsTheLast() {
        SignTables x = withChain();
        due("rule(0, 2)", x.rule(0, 2), 1);
        due("rule(0, 2)", x.rule(0, 2), 2);
    }

    private static void p12PlaceBelow0IsIndex() {
        dueRefusedRule(-1, 0, SignTables.INDEX);
    }

    private static void p12Place8IsIndex() {
        dueRefusedRule(8, 0, SignTables.INDEX);
    }

    private static void p12PlacesAtTheEndsOfIntAreIndex() {
        for (int place : endsOfInt()) {
            dueRefusedRule(place, 0, SignTables.INDEX);
        }
    }

    private static void p12NoneIsNull() {
        dueRefusedRule(2, 0, SignTables.NULL);
    }

    private static void p12AnotherKindIsCast() {
        dueRefusedRule(1, 0, SignTables.CAST);
    }

    private static void p12EveryOtherKindIsCast() {
        SignTables x = new SignTables();
        for (int kind = 0; kind <= 6; kind++) {
            x.filter(kind, kind);
            due("rule of kind " + kind, x.rule(kind, 2), kind == 5 ? 0 : SignTables.CAST);
        }
    }

    private static void p12BadComesAheadOfTheOthers() {
        dueRefusedRule(8, 3, SignTables.BAD);
        dueRefusedRule(2, 3, SignTables.BAD);
        dueRefusedRule(1, 3, SignTables.BAD);
    }

    private static void p12HalvesAtPlace7() {
        SignTables x = new SignTables();
        x.filter(7, 5);
        due("rule(7, 2)", x.rule(7, 2), 0);
        due("rule(7, 2)", x.rule(7, 2), 2);
    }

    private static void p12TwoHalvesHaveTheirOwnRules() {
        SignTables x = withText(55296);
        x.filter(0, 5);
        x.filter(1, 5);
        x.rule(1, 2);
        due("rule(0, 0)", x.rule(0, 0), 0);
        due("run()", x.run(), 0);
        due("met(0)", x.met(0), 1);
        due("met(1)", x.met(1), 1);
    }

    private static void p12ANewRuleLeavesTheLatestRun() {
        SignTables x = withChain();
        String before = picture(x);
        x.rule(0, 2);
        dueSame("all", picture(x), before);
    }

    public static void main(String[] args) {
        runCases(TellingBoundaries.class);
    }
}
