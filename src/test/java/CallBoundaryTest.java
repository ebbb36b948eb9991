import java.util.Arrays;

/**
 * Promises 1 to 13: the last argument that is taken and the first that is not, rows that are empty and full, and
 * what a refused call answers and leaves as it was. Each test bears the sentence that it holds to.
 */
public final class CallBoundaryTest extends RowTest {
    private static final int LEAST = Integer.MIN_VALUE;
    private static final int MOST = Integer.MAX_VALUE;

    /** Of each kind a meaning that is taken, {kind, v}, when there are two bodies. */
    private static final int[][] TAKEN = {
        {0, 0}, {1, 0}, {1, 255}, {1, 256}, {1, 4095}, {2, 0}, {2, 1}, {3, 0}, {3, 1}, {4, -999999999}, {4, -1}, {4, 0},
        {4, 999999999}, {5, 0}, {5, 10}, {6, 0}, {7, 0}, {8, 0}
    };

    /** Meanings that are refused when there are two bodies, {kind, v, answer}. */
    private static final int[][] REFUSED = {
        {-1, 0, -2}, {9, 0, -2}, {LEAST, 0, -2}, {MOST, 0, -2},
        {0, 1, -2}, {0, -1, -2}, {0, LEAST, -2}, {0, MOST, -2},
        {1, -1, -2}, {1, 4096, -2}, {1, LEAST, -2}, {1, MOST, -2},
        {2, -1, -1}, {2, 2, -1}, {2, 19, -1}, {2, 20, -1}, {2, LEAST, -1}, {2, MOST, -1},
        {3, -1, -1}, {3, 2, -1}, {3, 19, -1}, {3, 20, -1}, {3, LEAST, -1}, {3, MOST, -1},
        {4, -1000000000, -2}, {4, 1000000000, -2}, {4, LEAST, -2}, {4, MOST, -2},
        {5, -1, -2}, {5, 11, -2}, {5, LEAST, -2}, {5, MOST, -2},
        {6, 1, -2}, {6, -1, -2}, {7, 1, -2}, {7, -1, -2}, {8, 1, -2}, {8, -1, -2}
    };

    public static void main(String[] args) {
        aNewObjectHasNothing();
        namesAre0To39();
        kindsAndTheirNumbers();
        aRefusedMeaningLeavesTheOldOne();
        anUnknownNameGoesFirst();
        twentyBodies();
        aRefusedBodyLeavesTheOthers();
        tokensAreSignsOrNames();
        bodiesHaveTwelveTokens();
        theInputHas200Tokens();
        anUnknownBodyGoesFirst();
        noTokenGoesBeforeNoRoom();
        clearOfEmptyAndFull();
        clearLeavesAllElse();
        modesAre0To3();
        filesAre0To7();
        modesAreNoFiles();
        runOfNothingAndOf300();
        runAnswersEachFault();
        theInputStays();
        whatWasBeforeIsNoMore();
        atItsEnds();
        atBeforeAFault();
        toldItsEnds();
        toldBeforeARun();
        toldOfTheLatestRun();
        decidedItsEnds();
        decidedTheFirst100();
        decidedTrueAndFalse();
        decidedCases();
        notDecided();
        sameOfNoTokens();
        sameOfEmptyAndFullBodies();
        sameTokensNotSameMeanings();
        sameOfEachKind();
        countItsEnds();
        whatIsOnlyAskedForChangesNothing();
        finish();
    }

    // ---- Promise 1

    /** "Names without meanings, no bodies, no input; no mode on, no file at its end." */
    private static void aNewObjectHasNothing() {
        Subject x = new Subject();
        for (int name = 0; name < 40; name++) {
            due("name " + name + " is as one that was given kind 0", x.same(4096, 4096 + name), true);
        }
        x.meaning(0, 0, 0);
        due("kind 0 given again", x.same(4096, 4097), true);
        due("no bodies", x.count(0), 0);
        due("no body 0 for a token", x.token(0, 5), -1);
        due("no body 0 for a meaning", x.meaning(1, 2, 0), -1);
        due("no input", x.count(1), 0);
        due("nothing to clear", x.clear(), 0);
        due("nothing to run", x.run(), 0);
        Subject y = prepared();
        expect("no mode on", y, modesAsked(), "");
        expect("no file at its end", y, filesAsked(), "");
    }

    // ---- Promise 2

    /** "NAMES are 0 .. 39"; "-1 no such name". */
    private static void namesAre0To39() {
        Subject x = new Subject();
        for (int name : new int[] {-1, 40, LEAST, MOST, 4096, 4135}) {
            due("no name " + name, x.meaning(name, 4, 1), -1);
        }
        for (int name = 0; name < 40; name++) {
            due("no meaning was given to " + name, x.same(4096 + name, 4096), true);
        }
        due("name 0", x.meaning(0, 4, 100), 1);
        due("name 39", x.meaning(39, 4, 139), 1);
        due("name 0 has it", x.same(4096, 4097), false);
        due("name 39 has it", x.same(4135, 4134), false);
        due("each its own", x.same(4096, 4135), false);
        for (int name = 2; name < 39; name++) {
            due("no other has one: " + name, x.same(4096 + name, 4097), true);
        }
    }

    /** "of a kind 0 .. 8 with a number v"; "-2 kind not 0 .. 8, v not as said (kind 4: -999999999 .. 999999999)". */
    private static void kindsAndTheirNumbers() {
        Subject x = withTwoBodies();
        for (int[] m : TAKEN) {
            due("taken: kind " + m[0] + " v " + m[1], x.meaning(20, m[0], m[1]), 1);
        }
        for (int[] m : REFUSED) {
            due("refused: kind " + m[0] + " v " + m[1], x.meaning(21, m[0], m[1]), m[2]);
            due("no meaning by kind " + m[0] + " v " + m[1], x.same(4117, 4118), true);
        }
        for (int v = 0; v <= 10; v++) {
            due("IF " + v, x.meaning(22, 5, v), 1);
        }
    }

    /** "REFUSALS change nothing": whatever a name means, it still means. */
    private static void aRefusedMeaningLeavesTheOldOne() {
        for (int[] old : TAKEN) {
            Subject x = withTwoBodies();
            x.meaning(20, old[0], old[1]);
            x.meaning(21, old[0], old[1]);
            for (int[] m : REFUSED) {
                x.meaning(20, m[0], m[1]);
                due("kind " + old[0] + " v " + old[1] + " stays behind kind " + m[0] + " v " + m[1],
                    x.same(4116, 4117), true);
            }
            due("the other can be changed", x.meaning(21, old[0] == 6 ? 7 : 6, 0), 1);
            due("and is then another", x.same(4116, 4117), false);
        }
    }

    /** "REFUSALS .. answer, the first that fits: -1 an unknown number, -2 outside a range". */
    private static void anUnknownNameGoesFirst() {
        Subject x = withTwoBodies();
        due("name and kind", x.meaning(40, 9, 0), -1);
        due("name and v", x.meaning(-1, 4, MOST), -1);
        due("name and body", x.meaning(40, 2, 2), -1);
        due("kind alone", x.meaning(39, 9, MOST), -2);
        due("body alone", x.meaning(39, 3, 2), -1);
    }

    // ---- Promise 3

    /** "BODIES, numbered from 0, at most 20"; "One more body, without tokens: its number. -4." */
    private static void twentyBodies() {
        Subject x = new Subject();
        for (int i = 0; i < 20; i++) {
            due("not there yet: " + i, x.token(i, 1), -1);
            due("no macro of it yet: " + i, x.meaning(i, 2, i), -1);
            due("body " + i, x.body(), i);
            due("bodies", x.count(0), i + 1);
            due("a macro of it: " + i, x.meaning(i, 2, i), 1);
        }
        due("without tokens", x.count(2), 0);
        due("a 21st", x.body(), -4);
        due("and again", x.body(), -4);
        due("20 there are", x.count(0), 20);
        due("no body 20 for a token", x.token(20, 1), -1);
        due("no body 20 for a macro", x.meaning(20, 2, 20), -1);
        due("no body 20 for an outer macro", x.meaning(20, 3, 20), -1);
        due("the first takes tokens", x.token(0, 1), 1);
        due("the last takes tokens", x.token(19, 1), 1);
    }

    /** "REFUSALS change nothing": the 20 bodies, all of them full, are put out as they were. */
    private static void aRefusedBodyLeavesTheOthers() {
        Subject x = new Subject();
        for (int i = 0; i < 20; i++) {
            x.body();
            for (int k = 0; k < 12; k++) {
                due("token " + k + " of body " + i, x.token(i, 100 * i + k), k + 1);
            }
        }
        due("a 21st", x.body(), -4);
        due("all full", x.count(2), 240);
        for (int i = 0; i < 20; i++) {
            due("full: " + i, x.token(i, 1), -4);
            x.meaning(i, 2, i);
        }
        due("still full", x.count(2), 240);
        for (int i = 0; i < 20; i++) {
            x.clear();
            x.token(-1, 4096 + i);
            due("twelve of body " + i, x.run(), 12);
            due("first of body " + i, x.at(0), 100 * i);
            due("last of body " + i, x.at(11), 100 * i + 11);
        }
    }

    // ---- Promise 4

    /** "-2 t is neither a sign nor a name": signs are told as 0 .. 4095, names as 4096 .. 4135. */
    private static void tokensAreSignsOrNames() {
        int[] taken = {0, 255, 256, 4095, 4096, 4135};
        int[] refused = {-1, 4136, LEAST, MOST};
        for (int row = -1; row <= 0; row++) {
            Subject x = new Subject();
            x.body();
            x.meaning(20, 2, 0);
            for (int i = 0; i < taken.length; i++) {
                for (int t : refused) {
                    due("refused in row " + row + ": " + t, x.token(row, t), -2);
                }
                due("taken in row " + row + ": " + taken[i], x.token(row, taken[i]), i + 1);
            }
            if (row == 0) {
                x.token(-1, 4116);
            }
            due("as many as were taken", x.run(), taken.length);
            for (int i = 0; i < taken.length; i++) {
                due("in their order", x.at(i), taken[i]);
            }
        }
    }

    /** "rows of at most 12 tokens"; "A token behind a body's: how many it has"; "-4". */
    private static void bodiesHaveTwelveTokens() {
        Subject x = new Subject();
        x.body();
        x.body();
        x.body();
        x.meaning(0, 2, 1);
        x.token(-1, 4096);
        due("an empty body", x.run(), 0);
        for (int i = 0; i < 12; i++) {
            due("token " + i, x.token(1, 50 + i), i + 1);
            due("in all", x.count(2), i + 1);
        }
        due("a 13th", x.token(1, 99), -4);
        due("a 13th, again", x.token(1, 4096), -4);
        due("12 in all", x.count(2), 12);
        due("a full body", x.run(), 12);
        for (int i = 0; i < 12; i++) {
            due("at " + i, x.at(i), 50 + i);
        }
        due("the body before it has room", x.token(0, 1), 1);
        due("the body behind it has room", x.token(2, 1), 1);
        due("the full one is as it was", x.run(), 12);
        due("its first", x.at(0), 50);
        due("its last", x.at(11), 61);
    }

    /** "the INPUT is one of at most 200"; "(-1: behind the input)". */
    private static void theInputHas200Tokens() {
        Subject x = new Subject();
        for (int i = 0; i < 200; i++) {
            due("token " + i, x.token(-1, 1000 + i), i + 1);
        }
        due("a 201st", x.token(-1, 5), -4);
        due("a 201st, again", x.token(-1, 4096), -4);
        due("200 there are", x.count(1), 200);
        due("a full input", x.run(), 200);
        for (int i = 0; i < 200; i++) {
            due("at " + i, x.at(i), 1000 + i);
        }
        due("no more", x.at(200), -1);
        due("a body has room all the same", x.body(), 0);
        due("a body has room all the same", x.token(0, 7), 1);
    }

    /** "REFUSALS .. the first that fits": "-1 no such body" before "-2 t is neither a sign nor a name". */
    private static void anUnknownBodyGoesFirst() {
        Subject x = new Subject();
        x.body();
        for (int body : new int[] {1, -2, 19, 20, LEAST, MOST}) {
            due("no body " + body, x.token(body, 5), -1);
            due("no body and no token " + body, x.token(body, 4136), -1);
            due("no body and no token " + body, x.token(body, -1), -1);
        }
        due("no input by that", x.count(1), 0);
        due("no token by that", x.count(2), 0);
        due("no body by that", x.count(0), 1);
    }

    /** "REFUSALS .. the first that fits": "-2" before "-4". */
    private static void noTokenGoesBeforeNoRoom() {
        Subject x = new Subject();
        x.body();
        for (int i = 0; i < 12; i++) {
            x.token(0, i);
        }
        for (int i = 0; i < 200; i++) {
            x.token(-1, i);
        }
        for (int row = -1; row <= 0; row++) {
            due("no token, no room in " + row, x.token(row, -1), -2);
            due("no token, no room in " + row, x.token(row, 4136), -2);
            due("no room in " + row, x.token(row, 0), -4);
            due("no room in " + row, x.token(row, 4135), -4);
        }
    }

    // ---- Promise 5

    /** "The input is empty. How many it had." */
    private static void clearOfEmptyAndFull() {
        Subject x = new Subject();
        due("empty", x.clear(), 0);
        x.token(-1, 5);
        due("one", x.clear(), 1);
        due("empty again", x.clear(), 0);
        for (int i = 0; i < 200; i++) {
            x.token(-1, i);
        }
        x.token(-1, 5);
        due("full", x.clear(), 200);
        due("none there", x.count(1), 0);
        due("none to clear", x.clear(), 0);
        due("none put out", x.run(), 0);
        for (int i = 0; i < 200; i++) {
            due("room for 200 again", x.token(-1, 500 + i), i + 1);
        }
        due("and no more", x.token(-1, 5), -4);
        due("the new ones", x.run(), 200);
        due("the first of them", x.at(0), 500);
        due("the last of them", x.at(199), 699);
    }

    /** What promise 5 does not name stays: bodies, meanings, modes, files and what the latest run has to tell. */
    private static void clearLeavesAllElse() {
        Subject x = prepared();
        x.token(0, A);
        x.meaning(20, 2, 0);
        x.mode(3, true);
        x.end(7, true);
        put(x, -1, "@20 if5 b fi");
        x.run();
        int[] before = shown(x);
        due("cleared", x.clear(), 4);
        before[1] = 0;
        due("all else is as it was", Arrays.equals(before, shown(x)), true);
        put(x, -1, "@20 if9 3 _ m fi if10 7 _ n fi seven");
        due("macro, mode, file, name", x.run(), 4);
        due("body's token", x.at(0), A);
    }

    // ---- Promises 6 and 7

    /** "A mode 0 .. 3 is on, or not: 1. -2." */
    private static void modesAre0To3() {
        Subject x = prepared();
        refuseModes(x);
        expect("none on by a refused call", x, modesAsked(), "");
        for (int mode = 0; mode < 4; mode++) {
            Subject y = prepared();
            due("off, as it was", y.mode(mode, false), 1);
            due("on", y.mode(mode, true), 1);
            due("on, as it was", y.mode(mode, true), 1);
            expect("that one alone is on", y, modesAsked(), "" + (char) ('a' + mode));
            due("off", y.mode(mode, false), 1);
            expect("off again", y, modesAsked(), "");
            x.mode(mode, true);
        }
        refuseModes(x);
        expect("all stay on behind a refused call", x, modesAsked(), "a b c d");
    }

    private static void refuseModes(Subject x) {
        for (int mode : new int[] {-1, 4, 7, LEAST, MOST}) {
            due("no mode " + mode, x.mode(mode, true), -2);
            due("no mode " + mode, x.mode(mode, false), -2);
        }
    }

    /** "A file 0 .. 7 is at its end, or not: 1. -2." */
    private static void filesAre0To7() {
        Subject x = prepared();
        refuseFiles(x);
        expect("none at its end by a refused call", x, filesAsked(), "");
        for (int file = 0; file < 8; file++) {
            Subject y = prepared();
            due("not, as it was", y.end(file, false), 1);
            due("at its end", y.end(file, true), 1);
            due("at its end, as it was", y.end(file, true), 1);
            expect("that one alone is at its end", y, filesAsked(), "" + (char) ('a' + file));
            due("not", y.end(file, false), 1);
            expect("not again", y, filesAsked(), "");
            x.end(file, true);
        }
        refuseFiles(x);
        expect("all stay so behind a refused call", x, filesAsked(), "a b c d e f g h");
    }

    private static void refuseFiles(Subject x) {
        for (int file : new int[] {-1, 8, LEAST, MOST}) {
            due("no file " + file, x.end(file, true), -2);
            due("no file " + file, x.end(file, false), -2);
        }
    }

    private static void modesAreNoFiles() {
        Subject x = prepared();
        for (int i = 0; i < 4; i++) {
            x.mode(i, true);
        }
        expect("modes on, no file at its end", x, filesAsked(), "");
        Subject y = prepared();
        for (int i = 0; i < 8; i++) {
            y.end(i, true);
        }
        expect("files at their ends, no mode on", y, modesAsked(), "");
    }

    // ---- Promise 8

    /** "TO RUN: how many tokens were put out". */
    private static void runOfNothingAndOf300() {
        Subject x = prepared();
        put(x, 0, times("a ", 12));
        x.meaning(20, 2, 0);
        expect("an empty input", x, "", "");
        expectTold("an empty input", x, 0, 0, 0, 0, 0, 0, 0);
        expect("one", x, "a", "a");
        expect("all but one of the most", x, times("@20 ", 24) + times("a ", 11), times("a ", 299));
        expect("the most", x, times("@20 ", 25), times("a ", 300));
        expectFault("one more", x, times("@20 ", 25) + "a", 9, times("a ", 300));
    }

    /** "with a fault, 0 less its number". */
    private static void runAnswersEachFault() {
        Subject x = prepared();
        put(x, 0, "@20");
        x.meaning(20, 2, 0);
        x.meaning(21, 3, 0);
        String[] rows = {"if5", "fi", "if4 a", "if3 1 a", times("if5 ", 21), "if0 fi", "if6 @21 fi", "if9 4 _", "@20"};
        for (int fault = 1; fault <= 9; fault++) {
            expectFault("fault " + fault, x, rows[fault - 1], fault, "");
        }
    }

    /** "(The input stays ..)": also behind a fault, and tokens may be put behind it. */
    private static void theInputStays() {
        Subject x = prepared();
        put(x, -1, "a if5 b");
        for (int i = 0; i < 3; i++) {
            due("again the same fault", x.run(), -1);
            due("the input stays", x.count(1), 3);
            expectTold("again the same", x, 3, 2, 1, 1, 0, 1, 1);
        }
        due("one behind it", x.token(-1, 4109), 4);
        for (int i = 0; i < 3; i++) {
            due("no fault any more", x.run(), 2);
            due("the input stays", x.count(1), 4);
            expectTold("no fault any more", x, 4, 2, 1, 1, 0, 0, 0);
        }
    }

    /** "(.. what was put out and told before is no more.)": all seven numbers, all tokens, all decisions. */
    private static void whatWasBeforeIsNoMore() {
        Subject x = prepared();
        put(x, -1, "a b if5 if6 c fi if7 0 _ d if5");
        due("much to tell", x.run(), -1);
        expectTold("much to tell", x, 11, 3, 4, 3, 1, 3, 1);
        due("the last that was opened", x.decided(3), 1);
        x.clear();
        due("nothing", x.run(), 0);
        expectTold("nothing", x, 0, 0, 0, 0, 0, 0, 0);
        for (int i = 0; i < 4; i++) {
            due("none put out", x.at(i), -1);
            due("none decided", x.decided(i), -5);
        }
    }

    // ---- Promise 9

    /** "Token i that was put out by the latest run ..; -1 for none." */
    private static void atItsEnds() {
        Subject x = prepared();
        int[] none = {-1, 0, 1, 299, 300, LEAST, MOST};
        for (int i : none) {
            due("before a run: at " + i, x.at(i), -1);
        }
        x.run();
        for (int i : none) {
            due("behind an empty run: at " + i, x.at(i), -1);
        }
        put(x, -1, "#0 b #4095");
        due("before the next run", x.at(0), -1);
        x.run();
        due("at 0", x.at(0), 0);
        due("at the last", x.at(2), 4095);
        for (int i : new int[] {-1, 3, 299, 300, LEAST, MOST}) {
            due("behind three: at " + i, x.at(i), -1);
        }
        x.clear();
        due("also when the input is away", x.at(2), 4095);
    }

    /** ".. also before a fault": up to the token at which it was met. */
    private static void atBeforeAFault() {
        Subject x = prepared();
        put(x, 0, times("a ", 12));
        x.meaning(20, 2, 0);
        expectFault("none before", x, "fi a b", 2, "");
        expectFault("two before", x, "a b fi c", 2, "a b");
        expectFault("300 before", x, times("@20 ", 25) + "fi", 2, times("a ", 300));
        due("at 299", x.at(299), A);
        due("at 300", x.at(300), -1);
    }

    // ---- Promise 10

    /** "0 steps .. 6 the fault. -2 for others." */
    private static void toldItsEnds() {
        Subject x = prepared();
        int[] others = {-1, 7, 8, LEAST, MOST};
        for (int what : others) {
            due("before a run: told " + what, x.told(what), -2);
        }
        put(x, -1, "fi");
        x.run();
        for (int what : others) {
            due("behind a fault: told " + what, x.told(what), -2);
        }
        due("the first", x.told(0), 1);
        due("the last", x.told(6), 2);
    }

    /** "(all 0 before)": also with an input that has not been run yet. */
    private static void toldBeforeARun() {
        Subject x = prepared();
        put(x, -1, "a if5 fi");
        expectTold("before", x, 0, 0, 0, 0, 0, 0, 0);
        x.run();
        expectTold("behind", x, 3, 1, 1, 1, 0, 0, 0);
    }

    /** "Of the latest run": what comes between runs does not change it. */
    private static void toldOfTheLatestRun() {
        Subject x = prepared();
        put(x, -1, "a if5 if6 b else");
        x.run();
        int[] before = shown(x);
        x.token(-1, 5);
        x.token(0, 5);
        x.body();
        x.meaning(5, 0, 0);
        x.mode(0, true);
        x.end(0, true);
        x.clear();
        int[] after = shown(x);
        due("told, put out and decided", Arrays.equals(tail(before), tail(after)), true);
    }

    // ---- Promise 11

    /** "-5 not decided (a fault came before), or none such." */
    private static void decidedItsEnds() {
        Subject x = prepared();
        int[] none = {-1, 0, 1, 99, 100, LEAST, MOST};
        for (int i : none) {
            due("before a run: decided " + i, x.decided(i), -5);
        }
        expect("no condition", x, "a", "a");
        for (int i : none) {
            due("no condition: decided " + i, x.decided(i), -5);
        }
        expect("one condition", x, "if6 fi", "");
        due("decided 0", x.decided(0), 0);
        for (int i : new int[] {-1, 1, 99, 100, LEAST, MOST}) {
            due("one condition: decided " + i, x.decided(i), -5);
        }
    }

    /** "The first 100." */
    private static void decidedTheFirst100() {
        Subject x = prepared();
        put(x, 0, times("if5 fi ", 6));
        x.meaning(20, 2, 0);
        expect("99", x, times("@20 ", 16) + times("if5 fi ", 3), "");
        due("opened", x.told(2), 99);
        due("the 99th", x.decided(98), 1);
        due("no 100th", x.decided(99), -5);
        expect("100", x, times("@20 ", 16) + times("if5 fi ", 4), "");
        due("opened", x.told(2), 100);
        due("the 100th", x.decided(99), 1);
        due("no 101st", x.decided(100), -5);
        expect("101, the last unlike the first", x, times("@20 ", 16) + times("if5 fi ", 4) + "if6 fi", "");
        due("opened", x.told(2), 101);
        for (int i = 0; i < 100; i++) {
            due("decided " + i, x.decided(i), 1);
        }
        due("the 101st is not told", x.decided(100), -5);
        expect("those behind the 100th work as others", x, times("@20 ", 17) + "if6 a else b fi if7 1 _ c or d fi", "b d");
    }

    /** "1 TRUE, 0 FALSE": of each IF that is no case. */
    private static void decidedTrueAndFalse() {
        Subject x = prepared();
        x.mode(1, true);
        x.end(1, true);
        String[][] rows = {{"if0 a a", "if0 a b"}, {"if1 a b", "if1 a 1"}, {"if2 a a", "if2 a b"}, {"if3 1 < 2 _", "if3 1 < 1 _"},
            {"if4 1 _", "if4 2 _"}, {"if5", "if6"}, {"if8 a", "if8 @39"}, {"if9 1 _", "if9 0 _"}, {"if10 1 _", "if10 0 _"}};
        for (String[] row : rows) {
            expect("TRUE", x, row[0] + " p else q fi", "p");
            due("TRUE: " + row[0], x.decided(0), 1);
            expect("FALSE", x, row[1] + " p else q fi", "q");
            due("FALSE: " + row[1], x.decided(0), 0);
        }
    }

    /** "2 and n a case n of 0 and more, -1 a case below 0". */
    private static void decidedCases() {
        Subject x = prepared();
        int[][] cases = {{0, 2}, {1, 3}, {2, 4}, {999999999, 1000000001}, {-1, -1}, {-2, -1}, {-5, -1}, {-999999999, -1}};
        for (int[] c : cases) {
            x.meaning(20, 4, c[0]);
            expect("case " + c[0], x, "if7 @20 fi", "");
            due("case " + c[0], x.decided(0), c[1]);
        }
    }

    /** "-5 not decided (a fault came before)": the ones within may have been decided all the same. */
    private static void notDecided() {
        Subject x = prepared();
        expectFault("the second is not decided", x, "if5 if4 if6 fi a", 3, "");
        due("before", x.decided(0), 1);
        due("the asking one", x.decided(1), -5);
        due("the one within", x.decided(2), 0);
        due("none such", x.decided(3), -5);
        due("opened", x.told(2), 3);
        expectFault("decided, and then a fault in what is skipped", x, "if6 a", 1, "");
        due("that came behind", x.decided(0), 0);
        expectFault("decided, and then a fault in what is gone through", x, "if5 or fi", 2, "");
        due("that came behind", x.decided(0), 1);
        expectFault("a 21st is none such", x, times("if5 ", 21), 5, "");
        due("the 20th", x.decided(19), 1);
        due("the 21st", x.decided(20), -5);
    }

    // ---- Promise 12

    /** "false for what are no tokens": on either side, and also when both are the same number. */
    private static void sameOfNoTokens() {
        Subject x = new Subject();
        x.meaning(1, 1, 0);
        x.meaning(2, 1, 4095);
        int[] tokens = {0, 4095, 4096, 4097, 4098, 4135};
        int[] others = {-1, 4136, LEAST, MOST};
        for (int other : others) {
            due("no token and itself: " + other, x.same(other, other), false);
            for (int t : tokens) {
                due("no token first: " + other + " " + t, x.same(other, t), false);
                due("no token second: " + t + " " + other, x.same(t, other), false);
            }
        }
        for (int t : tokens) {
            due("a token and itself: " + t, x.same(t, t), true);
        }
        due("the lowest sign and its name", x.same(0, 4097), true);
        due("the highest sign and its name", x.same(4098, 4095), true);
        due("neighbours", x.same(0, 1), false);
        due("neighbours", x.same(4095, 4094), false);
        due("the highest sign and the lowest name", x.same(4095, 4096), false);
        due("names without meaning, lowest and highest", x.same(4096, 4135), true);
    }

    /** "macros (both outer or none) with bodies of the same tokens": none, all twelve, and all but the last. */
    private static void sameOfEmptyAndFullBodies() {
        Subject x = new Subject();
        for (int i = 0; i < 4; i++) {
            x.body();
            x.meaning(i, 2, i);
            x.meaning(10 + i, 3, i);
        }
        due("two empty bodies", x.same(4096, 4097), true);
        due("two empty bodies, outer", x.same(4106, 4107), true);
        due("one body, outer and not", x.same(4096, 4106), false);
        due("an empty body and no meaning", x.same(4096, 4135), false);
        for (int i = 0; i < 12; i++) {
            x.token(0, 5);
            x.token(1, 5);
            x.token(2, i < 11 ? 5 : 6);
            x.token(3, i > 0 ? 5 : 6);
            due("alike up to " + i, x.same(4096, 4097), true);
            due("the third, up to " + i, x.same(4096, 4098), i < 11);
            due("the fourth, up to " + i, x.same(4096, 4099), false);
        }
        due("full", x.same(4106, 4107), true);
        due("full, the last is another", x.same(4106, 4108), false);
        due("full, the first is another", x.same(4109, 4106), false);
    }

    /** "bodies of the same tokens": tokens that only mean the same are others. */
    private static void sameTokensNotSameMeanings() {
        Subject x = new Subject();
        int[] tokens = {4116, 4117, 4118, A};
        x.meaning(22, 1, A);
        for (int i = 0; i < 4; i++) {
            x.body();
            x.meaning(i, 2, i);
            x.token(i, tokens[i]);
        }
        due("two names without meaning", x.same(4116, 4117), true);
        due("but bodies of one each", x.same(4096, 4097), false);
        due("a name as its sign", x.same(4118, A), true);
        due("but bodies of one each", x.same(4098, 4099), false);
        x.meaning(4, 2, 0);
        due("two macros of one body", x.same(4096, 4100), true);
    }

    /** "others of the same kind and v". */
    private static void sameOfEachKind() {
        Subject x = withTwoBodies();
        for (int i = 0; i < TAKEN.length; i++) {
            x.meaning(i, TAKEN[i][0], TAKEN[i][1]);
            x.meaning(20 + i, TAKEN[i][0], TAKEN[i][1]);
        }
        for (int i = 0; i < TAKEN.length; i++) {
            for (int k = 0; k < TAKEN.length; k++) {
                due("meanings " + i + " and " + k, x.same(4096 + i, 4116 + k), i == k);
            }
        }
    }

    // ---- Promise 13

    /** "Bodies (what 0), tokens of the input (1), tokens of all bodies (2); -2 for others." */
    private static void countItsEnds() {
        Subject x = new Subject();
        for (int what : new int[] {-1, 3, LEAST, MOST}) {
            due("no count " + what, x.count(what), -2);
        }
        for (int what = 0; what <= 2; what++) {
            due("nothing: " + what, x.count(what), 0);
        }
        for (int i = 0; i < 20; i++) {
            x.body();
        }
        for (int i = 0; i < 12; i++) {
            x.token(0, 1);
            x.token(19, 1);
        }
        for (int i = 0; i < 200; i++) {
            x.token(-1, 1);
        }
        due("all bodies", x.count(0), 20);
        due("a full input", x.count(1), 200);
        due("the first and the last body full", x.count(2), 24);
    }

    /** Calls that only tell something, with arguments of all sorts, leave everything as it was. */
    private static void whatIsOnlyAskedForChangesNothing() {
        Subject x = prepared();
        put(x, -1, "a if5 b fi if6");
        x.run();
        int[] before = shown(x);
        for (int i : new int[] {LEAST, -1, 0, 3, 7, 100, 300, 4136, MOST}) {
            x.at(i);
            x.told(i);
            x.decided(i);
            x.count(i);
            x.same(i, i);
        }
        due("nothing has changed", Arrays.equals(before, shown(x)), true);
        due("and the run is the same", x.run(), -1);
        due("nothing has changed", Arrays.equals(before, shown(x)), true);
    }

    // ---- Helpers

    private static Subject withTwoBodies() {
        Subject x = new Subject();
        x.body();
        x.body();
        x.token(1, 5);
        return x;
    }

    /** Puts out a for mode 0, b for mode 1 and so on, if they are on. */
    private static String modesAsked() {
        return asked("if9", 4);
    }

    private static String filesAsked() {
        return asked("if10", 8);
    }

    private static String asked(String word, int n) {
        StringBuilder row = new StringBuilder();
        for (int i = 0; i < n; i++) {
            row.append(word).append(' ').append(i).append(" _ ").append((char) ('a' + i)).append(" fi ");
        }
        return row.toString();
    }

    /** The three counts, and then what the latest run has to tell. */
    private static int[] shown(Subject x) {
        int[] all = new int[22];
        for (int i = 0; i < 3; i++) {
            all[i] = x.count(i);
        }
        for (int i = 0; i < 7; i++) {
            all[3 + i] = x.told(i);
        }
        for (int i = 0; i < 6; i++) {
            all[10 + i] = x.at(i);
            all[16 + i] = x.decided(i);
        }
        return all;
    }

    private static int[] tail(int[] shown) {
        return Arrays.copyOfRange(shown, 3, shown.length);
    }
}
