/**
 * The sentences of the document's "Terms" that name a boundary: the last value that is taken and the first that is
 * not, parts that are empty or missing, and each fault where it is met first. Each test bears its sentence.
 */
public final class TermBoundaryTest extends RowTest {
    private static final String[] MARKS = {"else", "or", "fi"};

    public static void main(String[] args) {
        signsHaveCodesAndCategories();
        macrosOfEmptyAndFullBodies();
        macrosWithinMacros();
        bodiesAsTheyAreThen();
        noConditionOpenAtFirst();
        nothingLeftOfTheRunBefore();
        whatIsPutOutAsItStands();
        atMost300PutOut();
        atMost5000Steps();
        the5001stStepIsNotMade();
        noStepForWhatStays();
        trueUpToItsElseOrFi();
        falseUpToItsElseOrFi();
        partsOfACase();
        openNoMoreAtItsFi();
        skippedIfsAreCounted();
        skippedByMeanings();
        outerMacros();
        skippedTokensAreTold();
        codesOfNames();
        categoriesOfNames();
        tokensAsTheyStand();
        macrosAsTheyStand();
        relationsAtTheirEdges();
        oddNumbers();
        knownTokens();
        modesThatAreNone();
        filesThatAreNone();
        signsBeforeANumber();
        digitsAndTheirNeighbours();
        nineDigits();
        whatEndsDigits();
        namesOfNumbers();
        namesOfSignsAreNoSigns();
        marksWhereATokenIsAskedFor();
        marksWhereANumberIsAskedFor();
        conditionsStillOpen();
        tokensEnd();
        marksWithNoConditionOpen();
        orsInNoCase();
        marksBehindTheElse();
        twentyOpenAtOnce();
        theFirstFaultEndsAll();
        finish();
    }

    // ---- Tokens, macros, runs

    /** "A SIGN has a code 0 .. 255 and a category 0 .. 15; it is told as 256 times its category and its code." */
    private static void signsHaveCodesAndCategories() {
        Subject x = prepared();
        expect("the first and the last code of a category", x, "if0 #0 #255 p else q fi", "q");
        expect("they are of one category", x, "if1 #0 #255 p else q fi", "p");
        expect("the next one is of another", x, "if1 #255 #256 p else q fi", "q");
        expect("and begins with code 0", x, "if0 #0 #256 p else q fi", "p");
        expect("the last category", x, "if1 #3840 #4095 p else q fi", "p");
        expect("the one before the last", x, "if1 #3839 #3840 p else q fi", "q");
        expect("the last code of the last", x, "if0 #255 #4095 p else q fi", "p");
        expect("first and last category", x, "if1 #0 #4095 p else q fi", "q");
    }

    /** "A MACRO that is GONE ON WITH is away, its body's tokens stand in its place": none, one, twelve. */
    private static void macrosOfEmptyAndFullBodies() {
        Subject x = prepared();
        for (int i = 1; i <= 3; i++) {
            x.body();
            x.meaning(20 + i, 2, i);
        }
        x.meaning(20, 2, 0);
        put(x, 1, "a");
        put(x, 2, "a b c d e f g h i j k l");
        put(x, 3, "@20 @21 @20 @20");
        expect("an empty body", x, "@20", "");
        expectTold("an empty body", x, 1, 0, 0, 0, 0, 0, 0);
        expect("nothing but empty bodies", x, "@20 @20 @20", "");
        expect("one token", x, "y @21 z", "y a z");
        expect("a full body", x, "y @22 z", "y a b c d e f g h i j k l z");
        expectTold("a full body", x, 15, 14, 0, 0, 0, 0, 0);
        expect("bodies within a body", x, "y @23 z", "y a z");
        expectTold("bodies within a body", x, 8, 3, 0, 0, 0, 0, 0);
        expect("a macro as the last token", x, "@22 @20", "a b c d e f g h i j k l");
    }

    /** "its body's tokens .. stand in its place": 20 bodies within one another, left one by one and all at once. */
    private static void macrosWithinMacros() {
        Subject x = new Subject();
        for (int i = 0; i < 20; i++) {
            x.body();
            x.meaning(i, 2, i);
        }
        for (int i = 0; i < 19; i++) {
            x.token(i, 100 + i);
            x.token(i, 4096 + i + 1);
        }
        x.token(-1, 4096);
        x.token(-1, 5);
        due("left all at once", x.run(), 20);
        due("steps", x.told(0), 40);
        due("the innermost but one", x.at(18), 118);
        due("behind them all", x.at(19), 5);
        for (int i = 0; i < 19; i++) {
            x.token(i, 200 + i);
        }
        due("left one by one", x.run(), 39);
        for (int i = 0; i < 19; i++) {
            due("on the way in", x.at(i), 100 + i);
            due("on the way out", x.at(19 + i), 218 - i);
        }
        due("behind them all", x.at(38), 5);
    }

    /** "its body's tokens (as they are then)": at the run, not when the meaning was given. */
    private static void bodiesAsTheyAreThen() {
        Subject x = prepared();
        x.meaning(20, 2, 0);
        x.token(-1, 4116);
        for (int i = 0; i < 12; i++) {
            due("so many now", x.run(), i);
            x.token(0, 300 + i);
        }
        due("twelve", x.run(), 12);
        due("the last", x.at(11), 311);
        x.meaning(20, 4, 0);
        due("the name's meaning as it is then", x.run(), 1);
    }

    /** "with no condition open at first": also behind a run that ended with 20 open. */
    private static void noConditionOpenAtFirst() {
        for (String mark : MARKS) {
            Subject x = prepared();
            put(x, -1, times("if5 ", 20));
            due("20 open", x.run(), -1);
            due("20 open", x.told(5), 20);
            x.clear();
            put(x, -1, mark);
            due("none open at first: " + mark, x.run(), -2);
            expectTold("none open at first", x, 1, 0, 0, 0, 0, 0, 2);
            x.clear();
            put(x, -1, times("if5 ", 20) + times("fi ", 20));
            due("room for 20 again", x.run(), 0);
        }
    }

    /** "TO RUN is to go through the input": what stayed or was not gone through before a fault does not come again. */
    private static void nothingLeftOfTheRunBefore() {
        Subject x = prepared();
        put(x, 0, "fi b b b b b b b b b b b");
        x.meaning(20, 2, 0);
        String[] rows = {"if9 4 c d", "@20 c", "if0 a fi c", "if4 1 if5 c d", "if6 a", "if4 1 or c"};
        for (String row : rows) {
            x.renew();
            put(x, -1, row);
            due("a fault: " + row, x.run() < 0, true);
            x.clear();
            due("an empty input behind it: " + row, x.run(), 0);
            expectTold("an empty input behind it: " + row, x, 0, 0, 0, 0, 0, 0, 0);
            x.renew();
            put(x, -1, row);
            due("a fault: " + row, x.run() < 0, true);
            x.clear();
            put(x, -1, "z");
            due("one token behind it: " + row, x.run(), 1);
            due("one token behind it: " + row, x.at(0), read("z"));
            expectTold("one token behind it: " + row, x, 1, 1, 0, 0, 0, 0, 0);
        }
    }

    /** "a sign, and a name of kind 0, 1 or 4, is put out as it stands". */
    private static void whatIsPutOutAsItStands() {
        Subject x = prepared();
        x.meaning(39, 1, 0);
        x.meaning(38, 4, -999999999);
        x.meaning(37, 1, 12 * 256 + 48);
        String row = "#0 #4095 @39 @38 @37 @36 seven 1 _ =";
        expect("outside", x, row, row);
        expect("inside", x, "if5 " + row + " fi", row);
    }

    /** "At most 300 tokens are put out"; "9 a 301st token put out": one that is asked for or skipped is not put out. */
    private static void atMost300PutOut() {
        Subject x = prepared();
        put(x, 0, times("a ", 12));
        x.meaning(20, 2, 0);
        String full = times("@20 ", 25);
        String out = times("a ", 300);
        expect("asked for behind 300", x, full + "if0 a a fi if4 1 _ fi if8 a fi", out);
        expect("skipped behind 300", x, full + "if6 a a fi", out);
        expectFault("a 301st in a condition", x, full + "if5 a fi", 9, out);
        expectTold("a 301st in a condition", x, 327, 300, 1, 1, 0, 1, 9);
        expectFault("a 301st that stayed", x, full + "if4 1 a fi", 9, out);
        expectTold("a 301st that stayed", x, 328, 300, 1, 1, 0, 1, 9);
        expectFault("a 301st that is a name", x, full + "seven", 9, out);
        expectFault("a mark with no condition is no 301st", x, full + "fi", 2, out);
    }

    // ---- Steps

    /** Rows that put nothing out, and how many steps each makes. */
    private static final String[] ROWS = {
        "@37", "if5 fi", "if5 else fi", "if5 else a fi", "if6 fi", "if6 a fi", "if6 else fi", "if6 if5 fi fi", "if0 a b fi",
        "if1 a 1 fi", "if2 if5 fi fi", "if3 1 _ < 2 _ fi", "if3 1 < 2 fi", "if4 seven fi", "if4 + - 3 fi", "if4 3 _ fi",
        "if7 0 or else fi", "if7 1 _ or fi", "if7 - 1 _ a or b else fi", "if8 @37 fi", "if9 0 _ fi", "if10 7 fi",
        "if4 if5 3 fi _ fi", "if0 if6 b fi @37 a b fi"
    };

    /** "at most 5000 STEPS made: one for each token that is looked at, whatever for". */
    private static void atMost5000Steps() {
        Subject x = withEmptyBodies();
        for (String row : ROWS) {
            int length = row.split(" ").length;
            expect("one step less", x, steps(4999 - length) + row, "");
            due("4999 steps: " + row, x.told(0), 4999);
            expect("all steps", x, steps(5000 - length) + row, "");
            due("5000 steps: " + row, x.told(0), 5000);
            due("none open: " + row, x.told(5), 0);
        }
    }

    /** "a 5001st is not made"; "9 .. a 5001st step": wherever in a row it would be. */
    private static void the5001stStepIsNotMade() {
        Subject x = withEmptyBodies();
        for (String row : ROWS) {
            int length = row.split(" ").length;
            for (int over = 1; over <= length; over++) {
                expectFault("no step for the last " + over, x, steps(5000 - length + over) + row, 9, "");
                due("5000 steps: " + row, x.told(0), 5000);
            }
        }
        expectFault("not skipped", x, steps(4998) + "if6 a b fi", 9, "");
        expectTold("not skipped", x, 5000, 0, 1, 1, 1, 1, 9);
        expectFault("not opened", x, steps(5000) + "if5 fi", 9, "");
        expectTold("not opened", x, 5000, 0, 0, 0, 0, 0, 9);
        expectFault("not put out", x, steps(4999) + "a b", 9, "a");
        expectTold("not put out", x, 5000, 1, 0, 0, 0, 0, 9);
        expectFault("not decided", x, steps(4998) + "if0 a a fi", 9, "");
        due("not decided", x.decided(0), -5);
        expectFault("where tokens end no step is wanted", x, steps(4999) + "if5", 1, "");
        expectFault("nor where one is asked for", x, steps(4999) + "if4", 1, "");
        expectFault("nor where one is skipped", x, steps(4999) + "if6", 1, "");
    }

    /** "(once for each; one that stays and is looked at again makes none then ..)": also when no step is left. */
    private static void noStepForWhatStays() {
        Subject x = withEmptyBodies();
        expect("put out", x, steps(4996) + "if4 1 a fi", "a");
        due("put out", x.told(0), 5000);
        expectFault("put out with the last step", x, steps(4997) + "if4 1 a fi", 9, "a");
        expectTold("put out with the last step", x, 5000, 1, 1, 1, 0, 1, 9);
        expectFault("skipped with the last step", x, steps(4997) + "if4 2 a fi", 9, "");
        expectTold("skipped with the last step", x, 5000, 0, 1, 1, 1, 1, 9);
        expect("a fi with the last step", x, steps(4997) + "if4 1 fi", "");
        due("a fi with the last step", x.told(0), 5000);
        expect("a fi that ends two numbers", x, steps(4993) + "if4 if4 1 fi 3 _ fi", "");
        due("a fi that ends two numbers", x.told(0), 5000);
        expectFault("a relation with the last step", x, steps(4997) + "if3 1 < 2 fi", 9, "");
        expectTold("a relation with the last step", x, 5000, 0, 1, 1, 0, 1, 9);
    }

    // ---- Conditions

    /** "TRUE: it is gone through up to its ELSE or FI; from the ELSE on all up to its FI is skipped." */
    private static void trueUpToItsElseOrFi() {
        Subject x = prepared();
        expect("empty, no else", x, "if5 fi z", "z");
        expect("empty, with an else", x, "if5 else fi z", "z");
        expect("an else with nothing before it", x, "if5 else a b fi z", "z");
        expectTold("an else with nothing before it", x, 6, 1, 1, 1, 2, 0, 0);
        expect("an else with nothing behind it", x, "if5 a b else fi z", "a b z");
        expectTold("an else with nothing behind it", x, 6, 3, 1, 1, 0, 0, 0);
    }

    /** "FALSE: all up to its ELSE or FI is skipped; behind the ELSE it is gone through up to its FI." */
    private static void falseUpToItsElseOrFi() {
        Subject x = prepared();
        expect("empty, no else", x, "if6 fi z", "z");
        expect("empty, with an else", x, "if6 else fi z", "z");
        expect("an else with nothing before it", x, "if6 else a b fi z", "a b z");
        expectTold("an else with nothing before it", x, 6, 3, 1, 1, 0, 0, 0);
        expect("an else with nothing behind it", x, "if6 a b else fi z", "z");
        expectTold("an else with nothing behind it", x, 6, 1, 1, 1, 2, 0, 0);
    }

    /** "number n is gone through, if there is one, else (also for n below 0) what is behind the ELSE, if there is one". */
    private static void partsOfACase() {
        Subject x = prepared();
        String[] parts = {"a", "b", "c"};
        for (int n = -2; n <= 5; n++) {
            x.meaning(20, 4, n);
            boolean there = n >= 0 && n < 3;
            expect("three parts and an else", x, "if7 @20 a or b or c else d fi z", (there ? parts[n] : "d") + " z");
            due("three tokens skipped", x.told(4), 3);
            expect("three parts", x, "if7 @20 a or b or c fi z", (there ? parts[n] + " " : "") + "z");
            due("two or three tokens skipped", x.told(4), there ? 2 : 3);
            expect("one part and an else", x, "if7 @20 a else d fi z", n == 0 ? "a z" : "d z");
            expect("one part", x, "if7 @20 a fi z", n == 0 ? "a z" : "z");
            expect("no tokens in the parts", x, "if7 @20 or or else fi z", "z");
            expectTold("no tokens in the parts", x, 7, 1, 1, 1, 0, 0, 0);
            expect("no parts", x, "if7 @20 fi z", "z");
            expect("nothing but an else", x, "if7 @20 else d fi z", n == 0 ? "z" : "d z");
            expect("empty first part", x, "if7 @20 or b fi z", n == 1 ? "b z" : "z");
            expect("empty last part", x, "if7 @20 a or fi z", n == 0 ? "a z" : "z");
        }
        x.meaning(20, 4, 999999999);
        expect("the greatest", x, "if7 @20 a or b else d fi", "d");
        x.meaning(20, 4, -999999999);
        expect("the least", x, "if7 @20 a or b else d fi", "d");
        expect("the last part that there is room for", x, "if7 9 5 _ " + times("a or ", 95) + "b fi", "b");
        expect("0 turned round is 0", x, "if7 - 0 _ a or b else d fi", "a");
    }

    /** "At its FI a condition is open no more." */
    private static void openNoMoreAtItsFi() {
        Subject x = prepared();
        String[] rows = {"if5 fi", "if6 fi", "if5 else fi", "if6 else fi", "if7 0 fi", "if7 0 _ or fi", "if7 1 _ fi",
            "if7 1 _ or fi", "if7 1 _ else fi"};
        for (String row : rows) {
            expect("closed", x, row, "");
            due("none open: " + row, x.told(5), 0);
            for (String mark : MARKS) {
                expectFault("closed, so no mark behind", x, row + " " + mark, 2, "");
            }
        }
        expect("the one around is open still", x, "if6 else if5 fi a fi", "a");
        expectFault("and has had its else", x, "if6 else if5 fi a else fi", 2, "a");
        expect("one that was opened behind another's else has its own", x, "if6 else if6 a else b fi fi", "b");
        expect("one behind one with an else has its own", x, "if6 else fi if6 a else b fi if5 c else fi", "b c");
        expect("a case behind one with an else", x, "if6 else fi if7 1 _ a or b or c else fi", "b");
        expectFault("one behind a case is none", x, "if7 0 _ a or fi if5 b or fi", 2, "a b");
        expect("the most and the last", x, "if5 if5 if5 fi fi fi if5 fi", "");
        expectTold("the most and the last", x, 8, 0, 4, 3, 0, 0, 0);
    }

    // ---- What is skipped

    /** "ELSE, OR and FI belong to the condition only when no IF within is open". */
    private static void skippedIfsAreCounted() {
        Subject x = prepared();
        expect("as many as the input has room for", x, "if6 " + times("if5 ", 98) + times("fi ", 98) + "else a fi", "a");
        expectTold("as many as the input has room for", x, 200, 1, 1, 1, 196, 0, 0);
        expectFault("one FI less", x, "if6 " + times("if5 ", 98) + times("fi ", 97) + "else a fi", 1, "");
        expect("one after another", x, "if6 if5 fi if5 fi else a fi", "a");
        for (int i = 0; i <= 10; i++) {
            expect("whichever IF it is", x, "if6 if" + i + " else or fi else a fi", "a");
        }
        expect("in a case", x, "if7 1 _ if7 or or else fi or a fi", "a");
        expect("behind the else of one that is TRUE", x, "if5 a else if6 else or else fi fi z", "a z");
        expect("behind the part of a case", x, "if7 0 _ a or if5 else else fi b fi z", "a z");
        expect("askings are not made", x, "if6 if4 a if9 9 _ if3 fi fi fi fi z", "z");
    }

    /** "within it IFs and FIs are counted by their meanings". */
    private static void skippedByMeanings() {
        Subject x = prepared();
        x.meaning(30, 8, 0);
        x.meaning(31, 5, 6);
        x.meaning(32, 6, 0);
        put(x, 0, "fi");
        x.meaning(33, 2, 0);
        expect("another FI", x, "if6 a @30 z", "z");
        expect("another IF", x, "if6 @31 else fi else z fi", "z");
        expect("another ELSE", x, "if6 a @32 z fi", "z");
        expect("a macro is not gone on with", x, "if6 a @33 b fi z", "z");
        expect("nor within", x, "if6 if5 @33 fi b fi z", "z");
        x.meaning(13, 0, 0);
        expectFault("a FI no more", x, "if6 a fi z", 1, "");
    }

    /** "an OUTER macro there is fault 7 (elsewhere it is gone on with as others)". */
    private static void outerMacros() {
        Subject x = prepared();
        x.body();
        put(x, 1, "1");
        x.meaning(20, 3, 0);
        x.meaning(21, 3, 1);
        for (String outer : new String[] {"@20", "@21"}) {
            expectFault("first", x, "if6 " + outer + " fi", 7, "");
            expectTold("first", x, 2, 0, 1, 1, 0, 1, 7);
            expectFault("last", x, "if6 a " + outer, 7, "");
            expectFault("within", x, "if6 if5 " + outer + " fi fi", 7, "");
            expectFault("behind one within", x, "if6 if5 fi " + outer + " fi", 7, "");
            expectFault("behind the else", x, "if5 a else " + outer + " fi", 7, "a");
            expectFault("before the part", x, "if7 1 _ " + outer + " or fi", 7, "");
            expectFault("behind the part", x, "if7 0 _ a or " + outer + " fi", 7, "a");
            expectFault("in an asking", x, "if4 if6 " + outer + " fi 1 _ fi", 7, "");
            expectFault("it is not asked for there", x, "if6 if2 " + outer + " a fi fi", 7, "");
            expect("as it stands", x, "if2 " + outer + " " + outer + " p fi if8 " + outer + " p fi", "p p");
        }
        expect("just before and just behind", x, "@21 if6 fi @21", "1 1");
        expect("in the part gone through", x, "if5 @21 else fi if6 else @21 fi if7 1 _ or @21 or fi", "1 1 1");
        expect("in askings", x, "if0 @21 @21 p fi if4 @21 @21 _ p fi", "p p");
        expect("an empty one", x, "@20 a @20", "a");
    }

    /** "4 tokens skipped (but for the ELSE, OR, FI of the condition itself)". */
    private static void skippedTokensAreTold() {
        Subject x = prepared();
        String[] rows = {"if6 fi", "if6 else fi", "if5 else fi", "if7 0 _ or or else fi", "if7 5 _ or or else fi",
            "if7 5 _ or or fi"};
        for (String row : rows) {
            expect("none", x, row, "");
            due("none skipped: " + row, x.told(4), 0);
        }
        expect("the marks of those within are", x, "if6 if7 or else fi fi", "");
        due("the marks of those within are", x.told(4), 4);
        expect("on both sides", x, "if7 1 _ a b or c or d else e f fi", "c");
        due("on both sides", x.told(4), 5);
        expect("of all conditions together", x, "if6 a fi if5 else b fi if0 if6 c fi d d fi", "");
        due("of all conditions together", x.told(4), 3);
    }

    // ---- What IFs ask

    /** "(all names that are no signs have one code, 256)". */
    private static void codesOfNames() {
        Subject x = prepared();
        x.meaning(30, 1, 255);
        x.meaning(31, 1, 256);
        x.meaning(32, 4, 0);
        expect("no meaning and a number", x, "if0 @20 @32 p else q fi", "p");
        expect("the highest code is another", x, "if0 @20 #255 p else q fi", "q");
        expect("the code 0 of category 1 is another", x, "if0 @20 #256 p else q fi", "q");
        expect("code 0 is another", x, "if0 @20 #0 p else q fi", "q");
        expect("a name that is a sign has its code", x, "if0 @30 #511 p else q fi", "p");
        expect("a name that is a sign has its code", x, "if0 @31 #0 p else q fi", "p");
        expect("two of them", x, "if0 @30 @31 p else q fi", "q");
        expect("one of them and a name that is none", x, "if0 @30 @20 p else q fi", "q");
    }

    /** "likewise their categories (16 for those)". */
    private static void categoriesOfNames() {
        Subject x = prepared();
        x.meaning(30, 1, 4095);
        x.meaning(31, 1, 0);
        expect("no meaning and a number", x, "if1 @20 seven p else q fi", "p");
        expect("the highest category is another", x, "if1 @20 #4095 p else q fi", "q");
        expect("category 0 is another", x, "if1 @20 #16 p else q fi", "q");
        expect("a name that is a sign has its category", x, "if1 @30 #3840 p else q fi", "p");
        expect("a name that is a sign has its category", x, "if1 @31 #255 p else q fi", "p");
        expect("one of them and a name that is none", x, "if1 @30 @20 p else q fi", "q");
    }

    /** "2 two tokens as they stand, whatever they are (they are away then, in 8 likewise)". */
    private static void tokensAsTheyStand() {
        Subject x = prepared();
        x.meaning(20, 2, 0);
        x.meaning(21, 3, 0);
        String[] words = {"#0", "#4095", "@39", "seven", "if0", "if10", "else", "or", "fi", "@20", "@21"};
        for (String a : words) {
            for (String b : words) {
                expect("two", x, "if2 " + a + " " + b + " p else q fi z", (a.equals(b) ? "p" : "q") + " z");
                expectTold("two", x, 8, 2, 1, 1, 1, 0, 0);
            }
        }
    }

    /** "macros (both outer or none) with bodies of the same tokens": empty, full, and tokens that only mean the same. */
    private static void macrosAsTheyStand() {
        Subject x = prepared();
        String[] bodies = {"", "", "a a a a a a a a a a a a", "a a a a a a a a a a a a", "a a a a a a a a a a a b",
            "a a a a a a a a a a a", "@38", "@39"};
        for (int i = 0; i < bodies.length; i++) {
            if (i > 0) {
                x.body();
            }
            put(x, i, bodies[i]);
            x.meaning(15 + i, 2, i);
            x.meaning(25 + i, 3, i);
        }
        for (int i = 0; i < bodies.length; i++) {
            for (int k = 0; k < bodies.length; k++) {
                String answer = bodies[i].equals(bodies[k]) ? "p" : "q";
                expect("neither outer", x, "if2 @" + (15 + i) + " @" + (15 + k) + " p else q fi", answer);
                expect("both outer", x, "if2 @" + (25 + i) + " @" + (25 + k) + " p else q fi", answer);
                expect("one outer", x, "if2 @" + (15 + i) + " @" + (25 + k) + " p else q fi", "q");
            }
        }
    }

    /** "3 a NUMBER, a sign 60, 61 or 62 (less, same, greater)"; "4 no relation"; "relations, which are of category 12". */
    private static void relationsAtTheirEdges() {
        Subject x = prepared();
        int[] numbers = {-999999999, -999999998, -1, 0, 1, 999999998, 999999999};
        for (int a : numbers) {
            for (int b : numbers) {
                x = prepared();
                x.meaning(20, 4, a);
                x.meaning(21, 4, b);
                String row = a < b ? "p b b" : a == b ? "b p b" : "b b p";
                expect(a + " and " + b, x, "if3 @20 < @21 p else b fi if3 @20 = @21 p else b fi if3 @20 > @21 p else b fi",
                    row);
            }
        }
        for (int category = 0; category < 16; category++) {
            for (int code = 59; code <= 63; code++) {
                String row = "if3 1 _ #" + (256 * category + code) + " 1 _ fi";
                if (category == 12 && code >= 60 && code <= 62) {
                    expect("a relation", x, row, "");
                } else {
                    expectFault("no relation", x, row, 4, "");
                }
            }
        }
        expectFault("a digit that stays is none", x, "if3 seven 1 < 2 fi", 4, "");
        expectFault("a blank is none", x, "if3 seven _ < 2 fi", 4, "");
        expectFault("a name is none", x, "if3 1 @39 2 fi", 4, "");
    }

    /** "4 a NUMBER: whether it is odd." */
    private static void oddNumbers() {
        Subject x = prepared();
        int[] numbers = {-999999999, -999999998, -2, -1, 0, 1, 2, 999999998, 999999999};
        for (int n : numbers) {
            x.meaning(20, 4, n);
            expect("odd: " + n, x, "if4 @20 p else q fi", n % 2 != 0 ? "p" : "q");
            due("odd: " + n, x.decided(0), n % 2 != 0 ? 1 : 0);
            expect("odd, turned round: " + n, x, "if4 - @20 p else q fi", n % 2 != 0 ? "p" : "q");
        }
    }

    /** "8 a token as it stands: whether it is no name of kind 0." */
    private static void knownTokens() {
        Subject x = prepared();
        x.meaning(20, 2, 0);
        x.meaning(21, 3, 0);
        x.meaning(22, 1, 0);
        x.meaning(23, 4, 0);
        String[] known = {"#0", "#4095", "@20", "@21", "@22", "@23", "if0", "if10", "else", "or", "fi"};
        for (String word : known) {
            expect("known", x, "if8 " + word + " p else q fi z", "p z");
        }
        for (int name = 24; name < 40; name++) {
            expect("not known", x, "if8 @" + name + " p else q fi z", "q z");
        }
        x.meaning(23, 0, 0);
        expect("not known any more", x, "if8 @23 p else q fi", "q");
    }

    /** "9 a NUMBER 0 .. 3: whether that MODE is on"; "8 .. a mode or file that is none". */
    private static void modesThatAreNone() {
        Subject x = prepared();
        x.mode(0, true);
        x.mode(3, true);
        expect("the first", x, "if9 0 _ p else q fi", "p");
        expect("0 turned round", x, "if9 - 0 _ p else q fi", "p");
        expect("the last", x, "if9 3 _ p else q fi", "p");
        expect("one between", x, "if9 2 _ p else q fi", "q");
        for (String number : new String[] {"4 _", "- 1 _", "seven", "9 9 9 9 9 9 9 9 9 _", "- 3 _", "1 0 _"}) {
            expectFault("none", x, "if9 " + number + " p else q fi", 8, "");
            due("not decided", x.decided(0), -5);
            due("still open", x.told(5), 1);
        }
    }

    /** "10 a NUMBER 0 .. 7: whether that FILE is at its end"; "8 .. a mode or file that is none". */
    private static void filesThatAreNone() {
        Subject x = prepared();
        x.end(0, true);
        x.end(7, true);
        expect("the first", x, "if10 0 _ p else q fi", "p");
        expect("0 turned round", x, "if10 - 0 _ p else q fi", "p");
        expect("the last", x, "if10 7 _ p else q fi", "p");
        expect("one between", x, "if10 4 _ p else q fi", "q");
        for (String number : new String[] {"8 _", "- 1 _", "- seven", "9 9 9 9 9 9 9 9 9 _", "1 0 _"}) {
            expectFault("none", x, "if10 " + number + " p else q fi", 8, "");
            due("not decided", x.decided(0), -5);
            due("still open", x.told(5), 1);
        }
    }

    // ---- Numbers

    /** "signs 43, 45 of category 12 first, as many as there are (each 45 turns it round)". */
    private static void signsBeforeANumber() {
        Subject x = prepared();
        for (int n = 0; n <= 5; n++) {
            expect("so many 45", x, "if3 " + times("- ", n) + "5 = 5 _ p else q fi", n % 2 == 0 ? "p" : "q");
            expect("so many 45 and a name", x, "if3 " + times("- ", n) + "seven < 0 _ p else q fi", n % 2 == 1 ? "p" : "q");
            expect("so many 43", x, "if3 " + times("+ ", n) + "5 = 5 _ p else q fi", "p");
        }
        expect("both", x, "if3 + - + + - - 5 = - 5 _ p else q fi", "p");
        expect("as many as the input has room for", x, "if4 " + times("- ", 196) + "1 _ fi", "");
        for (int category = 0; category < 16; category++) {
            for (int code = 42; code <= 46; code++) {
                String row = "if4 #" + (256 * category + code) + " 1 _ fi";
                if (category == 12 && (code == 43 || code == 45)) {
                    expect("a sign before a number", x, row, "");
                } else {
                    expectFault("none", x, row, 3, "");
                    expectTold("none", x, 2, 0, 1, 1, 0, 1, 3);
                }
            }
        }
        expectFault("none behind the digits", x, "if3 1 - < 2 fi", 4, "");
    }

    /** "or digits 48 .. 57 of category 12, one at least, as long as they come"; "3 no number". */
    private static void digitsAndTheirNeighbours() {
        Subject x = prepared();
        for (int digit = 0; digit <= 9; digit++) {
            x.meaning(20, 4, digit);
            x.meaning(21, 4, 10 * digit + 1);
            expect("each digit", x, "if3 @20 = #" + (12 * 256 + 48 + digit) + " _ p else q fi", "p");
            expect("and one behind it", x, "if3 @21 = #" + (12 * 256 + 48 + digit) + " 1 _ p else q fi", "p");
        }
        for (int category = 0; category < 16; category++) {
            for (int code : new int[] {47, 48, 57, 58}) {
                int t = 256 * category + code;
                boolean isDigit = category == 12 && code >= 48 && code <= 57;
                if (isDigit) {
                    expect("a digit", x, "if4 #" + t + " 1 _ fi", "");
                } else {
                    expectFault("none at first", x, "if4 #" + t + " 1 _ fi", 3, "");
                    expectFault("none behind a sign", x, "if4 - #" + t + " 1 _ fi", 3, "");
                    expect("it ends digits", x, "if4 1 #" + t + " z fi", category == 10 ? "z" : "#" + t + " z");
                }
            }
        }
        expectFault("not one", x, "if4 a", 3, "");
        expectFault("a sign, and not one", x, "if4 - _", 3, "");
    }

    /** "8 a tenth digit": in each place where a NUMBER is asked for, and also when the first ones are 0. */
    private static void nineDigits() {
        Subject x = prepared();
        String[][] rows = {{"if3 ", " < seven fi"}, {"if3 seven < ", " fi"}, {"if4 ", " fi"}, {"if7 ", " fi"}, {"if9 ", " fi"},
            {"if10 ", " fi"}, {"if4 - ", " fi"}};
        for (String[] row : rows) {
            expect("nine digits", x, row[0] + "0 0 0 0 0 0 0 0 0" + row[1], "");
            expectFault("ten digits", x, row[0] + "0 0 0 0 0 0 0 0 0 0" + row[1], 8, "");
            due("the tenth was looked at", x.told(0), row[0].split(" ").length + 10);
            due("not decided", x.decided(0), -5);
        }
        x.meaning(20, 4, 999999999);
        x.meaning(21, 4, 123456789);
        expect("the greatest", x, "if3 9 9 9 9 9 9 9 9 9 = @20 p else q fi", "p");
        expect("the least", x, "if3 - 9 9 9 9 9 9 9 9 9 = - @20 p else q fi", "p");
        expect("each in its place", x, "if3 1 2 3 4 5 6 7 8 9 = @21 p else q fi", "p");
        expectFault("ten of them", x, "if3 9 9 9 9 9 9 9 9 9 9 = @20 p else q fi", 8, "");
        expect("the ninth ends the input no worse than others", x, "if4 0 0 0 0 0 0 0 0 1 _ p fi", "p");
        expectFault("fault 1 behind the ninth", x, "if4 0 0 0 0 0 0 0 0 1", 1, "");
        expect("nine and a tenth behind a blank", x, "if4 0 0 0 0 0 0 0 0 1 _ 5 fi", "5");
    }

    /** "(behind each one a token more is asked for: fault 1 when they end): what ends them stays, but for .. category 10". */
    private static void whatEndsDigits() {
        Subject x = prepared();
        x.meaning(20, 2, 0);
        for (int digits = 1; digits <= 9; digits++) {
            String number = times("1 ", digits);
            expectFault("tokens end", x, "if4 " + number, 1, "");
            expectFault("tokens end in an empty macro", x, "if4 " + number + "@20", 1, "");
            due("not decided", x.decided(0), -5);
            expect("something ends them", x, "if4 " + number + "z fi", "z");
        }
        for (int category = 0; category < 16; category++) {
            for (int code : new int[] {0, 255}) {
                String t = "#" + (256 * category + code);
                expect("a sign", x, "if4 1 " + t + " " + t + " fi", category == 10 ? t : t + " " + t);
                due("one step each", x.told(0), 5);
            }
        }
        expect("only one of category 10 is away", x, "if4 1 _ _ _ fi", "_ _");
        expect("one in the middle, and one at the end", x, "if3 1 _ = 1 _ _ fi", "_");
    }

    /** "then a name of kind 4: its v": nothing more is asked for, and nothing is away behind it. */
    private static void namesOfNumbers() {
        Subject x = prepared();
        expectFault("the last token", x, "if4 seven", 1, "");
        due("decided all the same", x.decided(0), 1);
        expect("a blank behind it stays", x, "if4 seven _ fi", "_");
        expect("a digit behind it stays", x, "if4 seven 2 fi", "2");
        expect("a name behind it stays", x, "if4 seven seven fi", "seven");
        expect("an IF behind it is not of the asking", x, "if4 seven if5 a fi fi", "a");
        expectTold("an IF behind it is not of the asking", x, 6, 1, 2, 2, 0, 0, 0);
        expectFault("a digit before it", x, "if3 1 seven = 1 _ fi", 4, "");
        expectFault("kind 0 is none", x, "if4 @39 fi", 3, "");
    }

    /** "(Here, and for relations .., a name of kind 1 is no sign.)" */
    private static void namesOfSignsAreNoSigns() {
        Subject x = prepared();
        x.meaning(20, 1, 12 * 256 + '1');
        x.meaning(21, 1, 12 * 256 + '-');
        x.meaning(22, 1, 12 * 256 + '+');
        x.meaning(23, 1, 12 * 256 + '<');
        x.meaning(24, 1, BLANK);
        expectFault("no digit", x, "if4 @20 _ fi", 3, "");
        expectFault("no digit behind a sign", x, "if4 - @20 _ fi", 3, "");
        expectFault("no 45", x, "if4 @21 1 _ fi", 3, "");
        expectFault("no 43", x, "if4 @22 1 _ fi", 3, "");
        expectFault("no relation", x, "if3 1 @23 2 _ fi", 4, "");
        expect("no digit behind digits", x, "if4 2 @20 _ fi if4 1 @20 fi", "@20");
        expect("no blank behind digits", x, "if4 1 @24 z fi", "@24 z");
        expect("but it is a sign in IF 0", x, "if0 @20 1 p else q fi", "p");
        expect("and in IF 1", x, "if1 @24 _ p else q fi", "p");
    }

    // ---- Askings

    /** "an ELSE, OR or FI belongs to a condition that this asking has opened ..; otherwise it is fault 6". */
    private static void marksWhereATokenIsAskedFor() {
        Subject x = prepared();
        put(x, 0, "fi");
        x.meaning(20, 2, 0);
        for (String mark : MARKS) {
            for (String row : new String[] {"if0", "if0 a", "if1", "if1 a", "if3 seven", "if3 1", "if3 1 _", "if0 if5 fi"}) {
                expectFault("instead of a token", x, row + " " + mark + " a a fi fi", 6, "");
                due("there and no farther: " + row, x.told(0), (row + " " + mark).split(" ").length);
                due("not decided: " + row, x.decided(0), -5);
                expectFault("those around are out of reach", x, "if5 if7 0 _ " + row + " " + mark + " a fi", 6, "");
            }
        }
        expectFault("out of a macro", x, "if0 a @20", 6, "");
        expect("an ELSE of its own", x, "if0 if5 a else b fi a p else q fi", "p");
        expect("an OR of its own", x, "if0 if7 0 _ a or b fi a p else q fi", "p");
        expect("a FI of its own", x, "if0 if5 a fi a p else q fi", "p");
        expectFault("a FI too many", x, "if0 if5 a fi fi a", 6, "");
        expectFault("a second ELSE of its own", x, "if0 if6 else else a fi a", 2, "");
        expectFault("an OR of its own that is no case's", x, "if0 if5 or a fi a", 2, "");
    }

    /** ".. but in a NUMBER it ends that (and stays)": before the first digit there is no number then. */
    private static void marksWhereANumberIsAskedFor() {
        Subject x = prepared();
        expect("an ELSE behind digits", x, "if4 1 else a fi z", "z");
        expect("an ELSE behind digits, FALSE", x, "if4 2 else a fi z", "a z");
        expect("a FI behind digits", x, "if4 1 fi z", "z");
        expect("an OR behind digits", x, "if7 0 or a fi z", "z");
        expect("an OR behind digits, the next part", x, "if7 1 or a fi z", "a z");
        expectFault("an OR behind digits in no case", x, "if4 1 or a fi z", 2, "");
        due("that is decided before", x.decided(0), 1);
        for (String mark : MARKS) {
            for (String row : new String[] {"if4", "if4 -", "if4 + +", "if7", "if9", "if10", "if3", "if3 1 <", "if3 1 < -"}) {
                expectFault("before the first digit", x, row + " " + mark + " fi", 3, "");
                due("there and no farther: " + row, x.told(0), (row + " " + mark).split(" ").length);
            }
        }
        expect("its own ELSE among digits", x, "if3 1 if5 2 else 3 fi 4 = 1 2 4 _ p else q fi", "p");
        expect("its own FI before the first digit", x, "if4 if5 fi 1 _ p fi", "p");
        expect("one of the first number's, closed in the second", x, "if3 if5 1 < 2 fi _ p fi", "p");
    }

    /** "When all that an IF asks for is there, and one that was opened for it is open still, that is fault 6, too." */
    private static void conditionsStillOpen() {
        Subject x = prepared();
        String[] rows = {"if0 if5 a a", "if0 a if5 a", "if1 if5 a a", "if1 a if5 a", "if3 if5 1 < 2 _", "if3 1 if5 < 2 _",
            "if3 1 < if5 2 _", "if3 1 < 2 if5 z", "if4 if5 1 _", "if4 if5 seven", "if4 1 if5 _", "if4 1 if5 z", "if4 - if5 1 _",
            "if7 if7 0 _ 0 _", "if9 if5 0 _", "if10 if6 else 0 _", "if0 if5 if5 a fi a"};
        for (String row : rows) {
            expectFault("still open", x, row + " fi fi fi", 6, "");
            due("there and no farther: " + row, x.told(0), row.split(" ").length);
            due("not decided: " + row, x.decided(0), -5);
        }
        expect("closed just before", x, "if0 if5 a fi if5 fi a p fi", "p");
        expect("closed by what ends the digits", x, "if4 if5 1 fi z fi", "z");
        expect("opened for the one around", x, "if4 if5 if5 1 fi if0 a a fi fi _ p fi", "p");
        expect("nothing asked for, so one behind it is its part", x, "if5 if5 a fi fi if2 a a if5 b fi fi", "a b");
    }

    // ---- Faults

    /** "1 the tokens end where something is asked for, or with conditions open". */
    private static void tokensEnd() {
        Subject x = prepared();
        x.meaning(20, 2, 0);
        String[] askings = {"if0", "if0 a", "if1", "if1 a", "if2", "if2 a", "if3", "if3 +", "if3 1", "if3 1 _", "if3 seven",
            "if3 1 <", "if3 1 < -", "if3 1 < 2", "if4", "if4 -", "if4 1", "if7", "if7 1", "if8", "if9", "if9 1", "if10",
            "if10 1", "if0 if5", "if4 if6 fi", "if4 1 if6 fi"};
        for (String row : askings) {
            // IF 2 and IF 8 take an empty macro as it stands: the tokens do not end there.
            boolean asItStands = row.startsWith("if2") || row.startsWith("if8");
            for (String end : asItStands ? new String[] {""} : new String[] {"", " @20"}) {
                expectFault("asked for", x, row + end, 1, "");
                due("not decided: " + row, x.decided(0), -5);
                due("all were looked at: " + row, x.told(0), (row + end).split(" ").length);
            }
        }
        String[] open = {"if5", "if5 else", "if6", "if6 else", "if6 if5 fi", "if7 0 _", "if7 0 _ or", "if7 1 _", "if7 1 _ or",
            "if2 a a", "if8 a", "if4 1 _", "if4 seven", "if0 a a", "if3 1 < seven", "if9 0 _", "if10 0 _"};
        for (String row : open) {
            for (String end : new String[] {"", " @20"}) {
                expectFault("open", x, row + end, 1, "");
                due("decided: " + row, x.decided(0) != -5, true);
                due("open: " + row, x.told(5), 1);
            }
            expect("one FI more is enough", x, row + " fi", "");
        }
        expectFault("one of two is open", x, "if5 if5 a fi", 1, "a");
        due("one of two is open", x.told(5), 1);
    }

    /** "2 an ELSE, OR or FI with no condition open". */
    private static void marksWithNoConditionOpen() {
        Subject x = prepared();
        for (String mark : MARKS) {
            expectFault("the first token", x, mark, 2, "");
            expectFault("the last token", x, "a b " + mark, 2, "a b");
            expectFault("behind two that are closed", x, "if5 if5 fi fi " + mark, 2, "");
            due("none open", x.told(5), 0);
        }
    }

    /** "2 .. an OR that belongs to one that is no case": each other IF, in each part, gone through and skipped. */
    private static void orsInNoCase() {
        Subject x = prepared();
        String[] ifs = {"if0 a a", "if0 a b", "if1 a a", "if1 a 1", "if2 a a", "if2 a b", "if3 1 < 2 _", "if3 1 > 2 _", "if4 1 _",
            "if4 2 _", "if5", "if6", "if8 a", "if8 @39", "if9 0 _", "if10 0 _"};
        for (String row : ifs) {
            expectFault("before the else", x, row + " or fi", 2, "");
            due("still open: " + row, x.told(5), 1);
            expectFault("behind the else", x, row + " else or fi", 2, "");
            expectFault("in a case around it", x, "if7 0 _ " + row + " or fi or fi", 2, "");
            due("both still open: " + row, x.told(5), 2);
            expect("an OR behind its FI is the case's", x, "if7 0 _ " + row + " fi or z fi", "");
        }
        expect("in a case", x, "if7 0 _ or fi", "");
    }

    /** "2 .. an ELSE or OR behind the ELSE (also where it is skipped)". */
    private static void marksBehindTheElse() {
        Subject x = prepared();
        String[] ifs = {"if5 a", "if6 a", "if7 0 _ a", "if7 1 _ a", "if7 1 _ a or a", "if7 2 _ a or a", "if7 0 _ a or b",
            "if7 - 1 _ a"};
        for (String row : ifs) {
            for (String mark : new String[] {"else", "or"}) {
                put(x, -1, row + " else b " + mark + " c fi");
                due("a second mark: " + row + " " + mark, x.run(), -2);
                due("it was looked at: " + row, x.told(0), row.split(" ").length + 3);
                due("still open: " + row, x.told(5), 1);
                x.renew();
                put(x, -1, row + " else if7 0 _ " + mark + " fi fi");
                due("one within has its own: " + row + " " + mark, x.run() >= 0, true);
                x.renew();
            }
        }
    }

    /** "5 a 21st condition open at once". */
    private static void twentyOpenAtOnce() {
        Subject x = prepared();
        expect("20", x, times("if5 ", 20) + times("fi ", 20), "");
        expectTold("20", x, 40, 0, 20, 20, 0, 0, 0);
        expectFault("21", x, times("if5 ", 21) + times("fi ", 21), 5, "");
        expectTold("21", x, 21, 0, 20, 20, 0, 20, 5);
        expect("one closed, and one more", x, times("if5 ", 20) + "fi if5 " + times("fi ", 20), "");
        expectTold("one closed, and one more", x, 42, 0, 21, 20, 0, 0, 0);
        expectFault("one closed, and two more", x, times("if5 ", 20) + "fi if5 if5", 5, "");
        expect("20 that are asked for", x, times("if4 ", 20) + times("1 fi ", 19) + "1 _ fi", "");
        due("20 that are asked for", x.told(3), 20);
        expectFault("21 that are asked for", x, times("if4 ", 21) + times("1 fi ", 20) + "1 _ fi", 5, "");
        due("none is decided", x.decided(0), -5);
        expect("19 and one that is asked for", x, times("if5 ", 18) + "if4 if5 1 fi _ fi " + times("fi ", 18), "");
        expectFault("20 and one that is asked for", x, times("if5 ", 19) + "if4 if5 1 fi _ fi " + times("fi ", 19), 5, "");
        expect("20, the last with an else", x, times("if5 ", 19) + "if6 a else b fi " + times("fi ", 19), "b");
        expect("20, the last a case", x, times("if5 ", 19) + "if7 1 _ a or b or c fi " + times("fi ", 19), "b");
        expect("20, and more that are skipped", x, times("if5 ", 19) + "if6 if5 if5 fi fi fi " + times("fi ", 19), "");
        due("20, and more that are skipped", x.told(3), 20);
    }

    /** "FAULTS, the first met ends all": what stands behind is not looked at, and its faults are not met. */
    private static void theFirstFaultEndsAll() {
        Subject x = prepared();
        x.meaning(20, 3, 0);
        String[] rows = {"fi", "if4 a", "if3 1 a", "if0 fi", "if6 @20", "if9 4 _"};
        int[] faults = {2, 3, 4, 6, 7, 8};
        for (int i = 0; i < rows.length; i++) {
            for (String behind : rows) {
                expectFault("the first", x, "a " + rows[i] + " " + behind, faults[i], "a");
                due("nothing behind it: " + rows[i], x.told(0), 1 + rows[i].split(" ").length);
            }
        }
    }

    // ---- Helpers

    /** Names 37, 38 and 39 make 1, 13 and 157 steps and put nothing out. */
    private static Subject withEmptyBodies() {
        Subject x = prepared();
        x.body();
        x.body();
        for (int i = 0; i < 12; i++) {
            x.token(1, 4096 + 37);
            x.token(2, 4096 + 38);
        }
        for (int i = 0; i < 3; i++) {
            x.meaning(37 + i, 2, i);
        }
        return x;
    }

    private static String steps(int n) {
        return times("@39 ", n / 157) + times("@38 ", n % 157 / 13) + times("@37 ", n % 157 % 13);
    }
}
