/** Promises 6 to 11, the search and what is asked of it: a test for each sentence that has an edge. */
public final class SearchEdgeTests {
    private static final Checks CHECKS = new Checks();

    private SearchEdgeTests() {
    }

    public static void main(String[] args) {
        CHECKS.runTests(SearchEdgeTests.class, "promise6", "promise7", "promise8", "promise9", "promise10", "promise11");
        CHECKS.end("SearchEdgeTests");
    }

    /** Differs in its first cycle, by word 1. */
    private static BoundedMachines differsAtOnce() {
        BoundedMachines x = new BoundedMachines(1);
        x.compare(0, x.gate(4, 0, 0));
        CHECKS.due("search of what differs at once", 0, () -> x.search(20));
        return x;
    }

    /** The least program is 1, 1, 0; two levels are clear. */
    private static BoundedMachines found() {
        BoundedMachines x = Machines.counterAgainstNo(2);
        CHECKS.due("search of what differs", 0, () -> x.search(20));
        return x;
    }

    /** Two levels are clear, the third one is not asked yet. */
    private static BoundedMachines underWay() {
        BoundedMachines x = Machines.counterAgainstNo(2);
        CHECKS.due("search of two levels", 1, () -> x.search(2));
        return x;
    }

    /** Four levels of one row each, and no more rows. */
    private static BoundedMachines allClear() {
        BoundedMachines x = Machines.counterAgainstItself(2);
        CHECKS.due("search of what never differs", 2, () -> x.search(20));
        return x;
    }

    private static BoundedMachines changed(BoundedMachines x) {
        x.compare(0, 0);
        return x;
    }

    /** "(1 .. 20000) .. IllegalArgumentException, when depth is none of these": too small */
    static void promise6DepthBelowOne() {
        BoundedMachines x = Machines.counterAgainstNo(2);
        CHECKS.throwsArgument("search(0)", () -> x.search(0));
        CHECKS.throwsArgument("search(-1)", () -> x.search(-1));
        CHECKS.throwsArgument("search(the smallest)", () -> x.search(Integer.MIN_VALUE));
    }

    /** "(1 .. 20000)": the least depth that there is */
    static void promise6DepthOne() {
        BoundedMachines x = Machines.counterAgainstNo(2);
        CHECKS.due("search(1)", 1, () -> x.search(1));
        CHECKS.due("clear", 1, x::clear);
    }

    /** "(1 .. 20000)": the largest depth that there is */
    static void promise6Depth20000() {
        BoundedMachines x = Machines.counterAgainstNo(2);
        CHECKS.due("search(20000)", 0, () -> x.search(20000));
        CHECKS.due("length", 3, x::length);
    }

    /** "(1 .. 20000) .. IllegalArgumentException, when depth is none of these": too large */
    static void promise6DepthAbove20000() {
        BoundedMachines x = Machines.counterAgainstNo(2);
        CHECKS.throwsArgument("search(20001)", () -> x.search(20001));
        CHECKS.throwsArgument("search(the largest)", () -> x.search(Integer.MAX_VALUE));
    }

    /** "IllegalArgumentException, when depth is none of these": also when nothing is left to search */
    static void promise6DepthIsRefusedInTheEndToo() {
        BoundedMachines found = found();
        CHECKS.throwsArgument("search(0), the program is known", () -> found.search(0));
        CHECKS.throwsArgument("search(20001), the program is known", () -> found.search(20001));
        BoundedMachines allClear = allClear();
        CHECKS.throwsArgument("search(0), all is clear", () -> allClear.search(0));
        CHECKS.throwsArgument("search(20001), all is clear", () -> allClear.search(20001));
    }

    /** The document leaves it open; the class reads: a call that throws changes nothing, and is no search. */
    static void promise6RefusedSearchLeavesAll() {
        BoundedMachines first = Machines.counterAgainstNo(2);
        CHECKS.throwsArgument("search(0) as the first", () -> first.search(0));
        CHECKS.throwsArgument("search(20001) as the second", () -> first.search(20001));
        CHECKS.due("nothing was searched", 0, first::seen);
        CHECKS.due("nothing is clear", 0, first::clear);
        BoundedMachines underWay = underWay();
        CHECKS.throwsArgument("search(20001) under way", () -> underWay.search(20001));
        CHECKS.due("clear stays", 2, underWay::clear);
        CHECKS.due("seen stays", 3, underWay::seen);
    }

    /** "Searches on until so many levels in all are clear": each search goes on from the one before */
    static void promise6SearchesOn() {
        BoundedMachines x = Machines.counterAgainstNo(4);
        for (int depth = 1; depth <= 8; depth++) {
            int asked = depth;
            CHECKS.due("search(" + depth + ")", 1, () -> x.search(asked));
            CHECKS.due("clear by it", depth, x::clear);
            CHECKS.due("seen by it", depth + 1, x::seen);
        }
        CHECKS.due("search(9)", 0, () -> x.search(9));
        CHECKS.due("length", 9, x::length);
        CHECKS.due("its first word", 1, () -> x.word(0));
        CHECKS.due("its last word but one", 1, () -> x.word(7));
        CHECKS.due("its last word", 0, () -> x.word(8));
    }

    /** "until so many levels in all are clear": as many are already, or more */
    static void promise6SoManyAreClearAlready() {
        BoundedMachines x = Machines.counterAgainstNo(4);
        CHECKS.due("search(5)", 1, () -> x.search(5));
        CHECKS.due("as many", 1, () -> x.search(5));
        CHECKS.due("clear after as many", 5, x::clear);
        CHECKS.due("fewer", 1, () -> x.search(1));
        CHECKS.due("clear after fewer", 5, x::clear);
        CHECKS.due("seen after fewer", 6, x::seen);
    }

    /** "one that differs was found .. 0 when": in the last level that depth leaves, not in the one behind it */
    static void promise6FoundInTheLastLevelAsked() {
        BoundedMachines tooShort = Machines.counterAgainstNo(3);
        CHECKS.due("one level too few", 1, () -> tooShort.search(4));
        BoundedMachines enough = Machines.counterAgainstNo(3);
        CHECKS.due("just enough", 0, () -> enough.search(5));
        CHECKS.due("length", 5, enough::length);
        CHECKS.due("clear", 4, enough::clear);
    }

    /** "0 when the least program is known (now, or before)": whatever the depth, and nothing changes */
    static void promise6KnownBefore() {
        BoundedMachines x = found();
        for (int depth : new int[] {1, 2, 3, 4, 20000}) {
            CHECKS.due("search(" + depth + ") again", 0, () -> x.search(depth));
        }
        CHECKS.due("length", 3, x::length);
        CHECKS.due("clear", 2, x::clear);
        CHECKS.due("seen", 3, x::seen);
    }

    /** "0 when the least program is known": in level 0, by the least depth */
    static void promise6DiffersInLevelZero() {
        BoundedMachines x = new BoundedMachines(1);
        x.compare(0, x.gate(4, 0, 0));
        CHECKS.due("search(1)", 0, () -> x.search(1));
        CHECKS.due("length", 1, x::length);
        CHECKS.due("clear", 0, x::clear);
    }

    /** "or there is no row in the next level: .. 2 when there are no more rows": by the depth at which it is seen */
    static void promise6NoRowInTheNextLevel() {
        BoundedMachines x = Machines.counterAgainstItself(2);
        CHECKS.due("a row is left in level 3", 1, () -> x.search(3));
        CHECKS.due("no row is left in level 4", 2, () -> x.search(4));
        CHECKS.due("clear", 4, x::clear);
        BoundedMachines atOnce = Machines.counterAgainstItself(2);
        CHECKS.due("just enough levels", 2, () -> atOnce.search(4));
        BoundedMachines further = Machines.counterAgainstItself(2);
        CHECKS.due("more than there are", 2, () -> further.search(20000));
        CHECKS.due("no more are clear", 4, further::clear);
    }

    /** "2 when there are no more rows": again and again, whatever the depth, and nothing changes */
    static void promise6NoMoreRowsForGood() {
        BoundedMachines x = allClear();
        for (int depth : new int[] {1, 3, 4, 5, 20000}) {
            CHECKS.due("search(" + depth + ") again", 2, () -> x.search(depth));
        }
        CHECKS.due("clear", 4, x::clear);
        CHECKS.due("seen", 4, x::seen);
        CHECKS.due("length", -1, x::length);
    }

    /** "2 .. (all programs are clear, whatever their length)": also far longer ones than there are levels */
    static void promise6WhateverTheirLength() {
        BoundedMachines x = Machines.twoCounters(3, false);
        CHECKS.due("search", 2, () -> x.search(20000));
        CHECKS.due("levels", 8, x::clear);
        for (int cycle = 0; cycle < 400; cycle++) {
            int word = cycle % 5 == 0 ? 0 : 1;
            CHECKS.due("cycle " + cycle, false, () -> x.cycle(word));
        }
    }

    /** "0 when ..": a last row that differs is a program, though no row would come behind it */
    static void promise6DiffersInTheLastRow() {
        BoundedMachines x = new BoundedMachines(1);
        int all = Machines.counterAndAll(x, 2);
        x.compare(all, x.gate(4, 0, 0));
        CHECKS.due("before it", 1, () -> x.search(3));
        CHECKS.due("by it", 0, () -> x.search(4));
        CHECKS.due("length", 4, x::length);
        CHECKS.due("clear", 3, x::clear);
    }

    /** "else 1": rows are left, and none of those that were asked differs */
    static void promise6ElseOne() {
        BoundedMachines x = Machines.widestLevels();
        for (int depth = 1; depth <= 4; depth++) {
            int asked = depth;
            CHECKS.due("search(" + depth + ")", 1, () -> x.search(asked));
            CHECKS.due("rows that are left", true, () -> x.level(asked) > 0);
            CHECKS.due("length", -1, x::length);
        }
    }

    /** Empty: without states the beginning is the only row. */
    static void promise6WithoutStates() {
        BoundedMachines equal = new BoundedMachines(4);
        equal.compare(3, 3);
        CHECKS.due("equal", 2, () -> equal.search(1));
        CHECKS.due("its level is clear", 1, equal::clear);
        CHECKS.due("its row", 1, equal::seen);
        BoundedMachines differing = new BoundedMachines(4);
        differing.compare(2, 3);
        CHECKS.due("differing", 0, () -> differing.search(1));
        CHECKS.due("the least word", 4, () -> differing.word(0));
    }

    /** Empty: without pairs, and without anything told, all is clear. */
    static void promise6WithoutPairs() {
        BoundedMachines bare = new BoundedMachines(2);
        CHECKS.due("without anything", 2, () -> bare.search(1));
        BoundedMachines x = new BoundedMachines(1);
        Machines.counter(x, 2);
        CHECKS.due("a counter without pairs", 2, () -> x.search(4));
        CHECKS.due("its levels", 4, x::clear);
    }

    /** Full: the least program of fourteen states that is the longest. */
    static void promise6LongestProgram() {
        BoundedMachines x = Machines.longestProgram();
        CHECKS.due("one level too few", 1, () -> x.search(16383));
        CHECKS.due("just enough", 0, () -> x.search(16384));
        CHECKS.due("length", 16384, x::length);
        CHECKS.due("clear", 16383, x::clear);
    }

    /** Full: as many levels as fourteen states can have. */
    static void promise6MostLevels() {
        BoundedMachines x = Machines.mostLevels();
        CHECKS.due("one level too few", 1, () -> x.search(16383));
        CHECKS.due("just enough", 2, () -> x.search(16384));
        CHECKS.due("as deep as can be", 2, () -> x.search(20000));
        CHECKS.due("clear", 16384, x::clear);
        BoundedMachines atOnce = Machines.mostLevels();
        CHECKS.due("as deep as can be, at once", 2, () -> atOnce.search(20000));
        CHECKS.due("clear at once", 16384, atOnce::clear);
    }

    /** Full: as many rows as fourteen states can have, in few levels. */
    static void promise6WidestLevels() {
        BoundedMachines x = Machines.widestLevels();
        CHECKS.due("one level too few", 1, () -> x.search(4));
        CHECKS.due("just enough", 2, () -> x.search(5));
        CHECKS.due("seen", 16384, x::seen);
        int[] want = {1, 15, 240, 3840, 12288, 0};
        for (int k = 0; k < want.length; k++) {
            int asked = k;
            CHECKS.due("level(" + k + ")", want[k], () -> x.level(asked));
        }
    }

    /** "What was searched is gone": the next search begins with level 0, and no row was there yet */
    static void promise6BeginsAgainAfterAChange() {
        BoundedMachines x = new BoundedMachines(1);
        int top = Machines.counter(x, 3);
        CHECKS.due("three states", 2, () -> x.search(20));
        CHECKS.due("eight rows", 8, x::seen);
        int flipped = x.next(top, top);
        CHECKS.due("the top one stays", 2, () -> x.search(20));
        CHECKS.due("four rows", 4, x::seen);
        x.next(top, flipped);
        CHECKS.due("the top one counts again", 2, () -> x.search(20));
        CHECKS.due("eight rows again", 8, x::seen);
        CHECKS.due("eight levels again", 8, x::clear);
        CHECKS.due("no row behind them", 0, () -> x.level(8));
    }

    /** "NONE before." */
    static void promise7NoneBeforeAnySearch() {
        BoundedMachines x = Machines.counterAgainstNo(2);
        CHECKS.due("length", -1, x::length);
    }

    /** "NONE before.": also while a search goes on */
    static void promise7NoneWhileTheSearchGoesOn() {
        BoundedMachines x = underWay();
        CHECKS.due("length", -1, x::length);
    }

    /** "NONE before.": for good, when all is clear */
    static void promise7NoneWhenAllIsClear() {
        BoundedMachines x = allClear();
        CHECKS.due("length", -1, x::length);
    }

    /** "NONE before.": again, when what was searched is gone */
    static void promise7NoneAfterAChange() {
        BoundedMachines x = changed(found());
        CHECKS.due("length", -1, x::length);
    }

    /** "The length of the least program that differs, once it was found": one word, the shortest */
    static void promise7LengthOne() {
        BoundedMachines x = differsAtOnce();
        CHECKS.due("length", 1, x::length);
    }

    /** "The length of the least program that differs, once it was found": all the words up to the cycle that differs */
    static void promise7LengthOnceFound() {
        BoundedMachines x = found();
        CHECKS.due("length", 3, x::length);
        CHECKS.due("length again", 3, x::length);
        BoundedMachines longest = Machines.longestProgram();
        longest.search(20000);
        CHECKS.due("the longest", 16384, longest::length);
    }

    /** "Word k of it.": from the first to the last */
    static void promise8FirstToLast() {
        BoundedMachines x = found();
        CHECKS.due("word(0)", 1, () -> x.word(0));
        CHECKS.due("word(1)", 1, () -> x.word(1));
        CHECKS.due("word(2)", 0, () -> x.word(2));
    }

    /** "IndexOutOfBoundsException, when there is none.": too small */
    static void promise8BelowZero() {
        BoundedMachines x = found();
        CHECKS.throwsIndex("word(-1)", () -> x.word(-1));
        CHECKS.throwsIndex("word(the smallest)", () -> x.word(Integer.MIN_VALUE));
    }

    /** "IndexOutOfBoundsException, when there is none.": too large */
    static void promise8BehindTheLast() {
        BoundedMachines x = found();
        CHECKS.throwsIndex("word(3)", () -> x.word(3));
        CHECKS.throwsIndex("word(the largest)", () -> x.word(Integer.MAX_VALUE));
        BoundedMachines one = differsAtOnce();
        CHECKS.due("word(0) of one", 1, () -> one.word(0));
        CHECKS.throwsIndex("word(1) of one", () -> one.word(1));
    }

    /** "IndexOutOfBoundsException, when there is none.": no program is known */
    static void promise8NoProgram() {
        BoundedMachines[] without = {Machines.counterAgainstNo(2), underWay(), allClear(), changed(found())};
        String[] when = {"before any search", "while the search goes on", "when all is clear", "after a change"};
        for (int n = 0; n < without.length; n++) {
            BoundedMachines x = without[n];
            for (int k = -2; k <= 1; k++) {
                int asked = k;
                CHECKS.throwsIndex("word(" + k + ") " + when[n], () -> x.word(asked));
            }
        }
    }

    /** "Word k of it.": of the longest one */
    static void promise8LongestProgram() {
        BoundedMachines x = Machines.longestProgram();
        x.search(20000);
        CHECKS.due("word(0)", 1, () -> x.word(0));
        CHECKS.due("word(8191)", 1, () -> x.word(8191));
        CHECKS.due("word(16382)", 1, () -> x.word(16382));
        CHECKS.due("word(16383)", 0, () -> x.word(16383));
        CHECKS.throwsIndex("word(16384)", () -> x.word(16384));
    }

    /** "How many levels are clear.": none before any search */
    static void promise9BeforeAnySearch() {
        BoundedMachines x = Machines.counterAgainstNo(2);
        CHECKS.due("clear", 0, x::clear);
    }

    /** "How many levels are clear.": none when level 0 differs */
    static void promise9LevelZeroDiffers() {
        BoundedMachines x = differsAtOnce();
        CHECKS.due("clear", 0, x::clear);
    }

    /** "How many levels are clear.": so many as search was asked for, while it goes on */
    static void promise9WhileTheSearchGoesOn() {
        BoundedMachines x = underWay();
        CHECKS.due("clear", 2, x::clear);
    }

    /** "How many levels are clear.": the one that differs is none of them */
    static void promise9LevelThatDiffers() {
        BoundedMachines x = found();
        CHECKS.due("clear", 2, x::clear);
        BoundedMachines longest = Machines.longestProgram();
        longest.search(20000);
        CHECKS.due("clear before the longest ends", 16383, longest::clear);
    }

    /** "How many levels are clear.": the one without rows is none of them */
    static void promise9LevelWithoutRows() {
        BoundedMachines x = allClear();
        CHECKS.due("clear", 4, x::clear);
        BoundedMachines bare = new BoundedMachines(1);
        bare.search(20000);
        CHECKS.due("clear without states", 1, bare::clear);
    }

    /** "How many levels are clear.": none, when what was searched is gone */
    static void promise9AfterAChange() {
        CHECKS.due("clear after a program", 0, changed(found())::clear);
        CHECKS.due("clear after some levels", 0, changed(underWay())::clear);
        CHECKS.due("clear after all levels", 0, changed(allClear())::clear);
    }

    /** "(.. once search() was called; 0 before)" */
    static void promise10BeforeAnySearch() {
        BoundedMachines x = Machines.counterAgainstNo(2);
        CHECKS.due("seen", 0, x::seen);
        x.cycle(1);
        x.begin();
        CHECKS.due("seen after a run by hand", 0, x::seen);
    }

    /** "(the beginning counts, once search() was called": also when it differs itself */
    static void promise10BeginningCounts() {
        BoundedMachines x = differsAtOnce();
        CHECKS.due("seen", 1, x::seen);
        BoundedMachines bare = new BoundedMachines(1);
        bare.search(1);
        CHECKS.due("seen without states", 1, bare::seen);
    }

    /** "How many rows of states came so far": those of the level that is not asked yet came */
    static void promise10LevelThatIsNotAskedYet() {
        BoundedMachines x = Machines.widestLevels();
        int[] want = {16, 256, 4096, 16384, 16384, 16384};
        for (int depth = 1; depth <= want.length; depth++) {
            x.search(depth);
            CHECKS.due("seen by search(" + depth + ")", want[depth - 1], x::seen);
        }
    }

    /** "How many rows of states came so far": those of a level that differs came, what would come of them did not */
    static void promise10LevelThatDiffers() {
        BoundedMachines x = found();
        CHECKS.due("seen", 3, x::seen);
        BoundedMachines wide = Machines.widestLevels();
        wide.compare(7, wide.gate(4, 0, 0));
        CHECKS.due("search by bit 3 of the word before", 0, () -> wide.search(20));
        CHECKS.due("the word before", 8, () -> wide.word(0));
        CHECKS.due("seen of it", 16, wide::seen);
    }

    /** "How many rows of states came so far": all that there are, each once */
    static void promise10AllRows() {
        BoundedMachines x = Machines.mostLevels();
        x.search(20000);
        CHECKS.due("seen", 16384, x::seen);
        CHECKS.due("seen in four levels", 4, allClear()::seen);
    }

    /** "(.. 0 before)": again, when what was searched is gone */
    static void promise10AfterAChange() {
        CHECKS.due("seen after a program", 0, changed(found())::seen);
        CHECKS.due("seen after some levels", 0, changed(underWay())::seen);
        CHECKS.due("seen after all levels", 0, changed(allClear())::seen);
    }

    /** "Of these, how many are of level k.": of 0 rows none is, before any search (a choice: it could be refused) */
    static void promise11BeforeAnySearch() {
        BoundedMachines x = Machines.counterAgainstNo(2);
        CHECKS.due("level(0)", 0, () -> x.level(0));
        CHECKS.throwsIndex("level(1)", () -> x.level(1));
        CHECKS.throwsIndex("level(-1)", () -> x.level(-1));
    }

    /** "Of these, how many are of level k.": level 0 has the beginning */
    static void promise11LevelZero() {
        CHECKS.due("when it differs", 1, () -> differsAtOnce().level(0));
        CHECKS.due("when the search goes on", 1, () -> underWay().level(0));
        CHECKS.due("when all is clear", 1, () -> allClear().level(0));
    }

    /** "when k is not 0 up to the clear levels": the level behind the clear ones is among them */
    static void promise11LevelBehindTheClearOnes() {
        CHECKS.due("not asked yet", 1, () -> underWay().level(2));
        CHECKS.due("it differs", 1, () -> found().level(2));
        BoundedMachines wide = Machines.widestLevels();
        wide.search(1);
        CHECKS.due("fifteen rows, not asked yet", 15, () -> wide.level(1));
    }

    /** "0 up to the clear levels": when there are no more rows, the last of them has none */
    static void promise11LevelWithoutRows() {
        BoundedMachines x = allClear();
        CHECKS.due("level(3)", 1, () -> x.level(3));
        CHECKS.due("level(4)", 0, () -> x.level(4));
    }

    /** "IndexOutOfBoundsException, when k is not 0 up to the clear levels": too small */
    static void promise11BelowZero() {
        BoundedMachines x = underWay();
        CHECKS.throwsIndex("level(-1)", () -> x.level(-1));
        CHECKS.throwsIndex("level(the smallest)", () -> x.level(Integer.MIN_VALUE));
    }

    /** "IndexOutOfBoundsException, when k is not 0 up to the clear levels": too large */
    static void promise11AboveTheClearLevels() {
        CHECKS.throwsIndex("level(1) when level 0 differs", () -> differsAtOnce().level(1));
        CHECKS.throwsIndex("level(3) of two clear ones", () -> underWay().level(3));
        CHECKS.throwsIndex("level(3) when level 2 differs", () -> found().level(3));
        CHECKS.throwsIndex("level(5) of four clear ones", () -> allClear().level(5));
        CHECKS.throwsIndex("level(the largest)", () -> allClear().level(Integer.MAX_VALUE));
    }

    /** "0 up to the clear levels": as many as there can be */
    static void promise11MostLevels() {
        BoundedMachines x = Machines.mostLevels();
        x.search(20000);
        CHECKS.due("level(0)", 1, () -> x.level(0));
        CHECKS.due("level(16383)", 1, () -> x.level(16383));
        CHECKS.due("level(16384)", 0, () -> x.level(16384));
        CHECKS.throwsIndex("level(16385)", () -> x.level(16385));
    }

    /** "Of these": the levels' rows are all that were seen */
    static void promise11LevelsAddUp() {
        BoundedMachines x = Machines.widestLevels();
        for (int depth = 1; depth <= 5; depth++) {
            x.search(depth);
            int sum = 0;
            for (int k = 0; k <= x.clear(); k++) {
                sum += x.level(k);
            }
            CHECKS.due("seen by search(" + depth + ")", sum, x::seen);
        }
    }

    /** "0 up to the clear levels": none is clear, when what was searched is gone */
    static void promise11AfterAChange() {
        CHECKS.due("level(0)", 0, () -> changed(found()).level(0));
        CHECKS.throwsIndex("level(1) after a program", () -> changed(found()).level(1));
        CHECKS.throwsIndex("level(1) after all levels", () -> changed(allClear()).level(1));
    }
}
