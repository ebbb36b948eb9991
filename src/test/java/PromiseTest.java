/** Answers that the document asks for, promise by promise. */
public final class PromiseTest extends RowTest {
    public static void main(String[] args) {
        newObject();
        meaning();
        body();
        token();
        clear();
        modesAndEnds();
        plainRuns();
        trueAndFalse();
        cases();
        skippedConditions();
        codesAndCategories();
        meaningsInConditions();
        numbers();
        relations();
        knownNames();
        modesAndFilesInConditions();
        conditionsWithinAskings();
        macros();
        misplacedMarks();
        endsOfTokens();
        askingFaults();
        limits();
        stepsOfTokensThatStay();
        laterRuns();
        runsBehindFaults();
        decided();
        same();
        count();
        finish();
    }

    // ---- Promises 1 to 7, 12 and 13: what is kept between runs

    private static void newObject() {
        ConditionText x = new ConditionText();
        for (int what = 0; what <= 6; what++) {
            due("new: told " + what, x.told(what), 0);
        }
        due("new: at", x.at(0), -1);
        due("new: decided", x.decided(0), -5);
        for (int what = 0; what <= 2; what++) {
            due("new: count " + what, x.count(what), 0);
        }
        for (int name = 0; name < 40; name++) {
            due("new: no meaning " + name, x.same(4096, 4096 + name) ? 1 : 0, 1);
        }
        due("new: run", x.run(), 0);
        Subject y = prepared();
        for (int mode = 0; mode < 4; mode++) {
            expect("new: mode off", y, "if9 " + mode + " _ a else b fi", "b");
        }
        for (int file = 0; file < 8; file++) {
            expect("new: file not at its end", y, "if10 " + file + " _ a else b fi", "b");
        }
    }

    private static void meaning() {
        ConditionText x = new ConditionText();
        due("no name -1", x.meaning(-1, 0, 0), -1);
        due("no name 40", x.meaning(40, 0, 0), -1);
        due("no name goes first", x.meaning(40, 9, 0), -1);
        due("lowest name", x.meaning(0, 0, 0), 1);
        due("highest name", x.meaning(39, 0, 0), 1);
        due("kind -1", x.meaning(0, -1, 0), -2);
        due("kind 9", x.meaning(0, 9, 0), -2);
        for (int kind : new int[] {0, 6, 7, 8}) {
            due("v of kind " + kind, x.meaning(0, kind, 0), 1);
            due("v 1 of kind " + kind, x.meaning(0, kind, 1), -2);
            due("v -1 of kind " + kind, x.meaning(0, kind, -1), -2);
        }
        due("lowest sign", x.meaning(0, 1, 0), 1);
        due("highest sign", x.meaning(0, 1, 4095), 1);
        due("sign -1", x.meaning(0, 1, -1), -2);
        due("sign 4096", x.meaning(0, 1, 4096), -2);
        for (int kind = 2; kind <= 3; kind++) {
            ConditionText y = new ConditionText();
            due("no body yet", y.meaning(0, kind, 0), -1);
            due("body", y.body(), 0);
            due("body there", y.meaning(0, kind, 0), 1);
            due("no body 1", y.meaning(0, kind, 1), -1);
            due("no body -1", y.meaning(0, kind, -1), -1);
        }
        due("least number", x.meaning(0, 4, -999999999), 1);
        due("greatest number", x.meaning(0, 4, 999999999), 1);
        due("number too small", x.meaning(0, 4, -1000000000), -2);
        due("number too great", x.meaning(0, 4, 1000000000), -2);
        due("least int", x.meaning(0, 4, Integer.MIN_VALUE), -2);
        due("first if", x.meaning(0, 5, 0), 1);
        due("last if", x.meaning(0, 5, 10), 1);
        due("if 11", x.meaning(0, 5, 11), -2);
        due("if -1", x.meaning(0, 5, -1), -2);
        refusedMeaningChangesNothing();
    }

    private static void refusedMeaningChangesNothing() {
        Subject x = prepared();
        due("refused", x.meaning(SEVEN, 4, 1000000000), -2);
        due("refused", x.meaning(SEVEN, 2, 5), -1);
        due("refused", x.meaning(SEVEN, 9, 0), -2);
        expect("the meaning is still there", x, "if3 seven = 7 _ a else b fi", "a");
        due("changed", x.meaning(SEVEN, 4, 8), 1);
        expect("the latest meaning holds", x, "if3 seven = 7 _ a else b fi", "b");
    }

    private static void body() {
        ConditionText x = new ConditionText();
        for (int i = 0; i < 20; i++) {
            due("body " + i, x.body(), i);
        }
        due("21st body", x.body(), -4);
        due("still 20", x.count(0), 20);
        due("no tokens in it", x.count(2), 0);
        due("last body is there", x.token(19, 5), 1);
    }

    private static void token() {
        ConditionText x = new ConditionText();
        due("no body 0", x.token(0, 5), -1);
        due("no body goes first", x.token(0, -1), -1);
        due("no body -2", x.token(-2, 5), -1);
        due("body", x.body(), 0);
        due("no body 1", x.token(1, 5), -1);
        due("t -1", x.token(0, -1), -2);
        due("t 4136", x.token(-1, 4136), -2);
        due("refused: no input", x.count(1), 0);
        due("refused: no body's token", x.count(2), 0);
        int[] edges = {0, 4095, 4096, 4135};
        for (int i = 0; i < 12; i++) {
            due("token of body", x.token(0, edges[i % 4]), i + 1);
        }
        due("13th of body", x.token(0, 0), -4);
        due("no token goes before no room", x.token(0, 4136), -2);
        due("12 remain", x.count(2), 12);
        for (int i = 0; i < 200; i++) {
            due("token of input", x.token(-1, edges[i % 4]), i + 1);
        }
        due("201st of input", x.token(-1, 0), -4);
        due("no token goes before no room", x.token(-1, -1), -2);
        due("200 remain", x.count(1), 200);
        due("run", x.run(), 200);
        for (int i = 0; i < 200; i += 33) {
            due("put out as they came", x.at(i), edges[i % 4]);
        }
    }

    private static void clear() {
        Subject x = prepared();
        due("empty", x.clear(), 0);
        put(x, -1, "a b c");
        due("three", x.clear(), 3);
        due("now none", x.clear(), 0);
        due("count", x.count(1), 0);
        due("room again", x.token(-1, 0), 1);
        int bodies = x.count(2);
        x.clear();
        due("bodies stay", x.count(2), bodies);
    }

    private static void modesAndEnds() {
        Subject x = prepared();
        due("mode -1", x.mode(-1, true), -2);
        due("mode 4", x.mode(4, true), -2);
        due("file -1", x.end(-1, true), -2);
        due("file 8", x.end(8, true), -2);
        for (int mode = 0; mode < 4; mode++) {
            due("mode", x.mode(mode, true), 1);
            due("file", x.end(mode + 4, true), 1);
            expect("on", x, "if9 " + mode + " _ a else b fi", "a");
            expect("at its end", x, "if10 " + (mode + 4) + " _ a else b fi", "a");
            expect("other file", x, "if10 " + mode + " _ a else b fi", "b");
            due("mode", x.mode(mode, false), 1);
            due("file", x.end(mode + 4, false), 1);
            expect("off", x, "if9 " + mode + " _ a else b fi", "b");
            expect("not at its end", x, "if10 " + (mode + 4) + " _ a else b fi", "b");
        }
    }

    private static void same() {
        Subject x = prepared();
        due("a sign", x.same(5, 5) ? 1 : 0, 1);
        due("other code", x.same(5, 6) ? 1 : 0, 0);
        due("other category", x.same(5, 256 + 5) ? 1 : 0, 0);
        x.meaning(20, 1, 5);
        x.meaning(21, 1, 5);
        due("name as its sign", x.same(4116, 5) ? 1 : 0, 1);
        due("and the other way", x.same(5, 4116) ? 1 : 0, 1);
        due("name not as other sign", x.same(4116, 6) ? 1 : 0, 0);
        due("two names as one sign", x.same(4116, 4117) ? 1 : 0, 1);
        due("sign and no meaning", x.same(0, 4125) ? 1 : 0, 0);
        due("no meanings", x.same(4125, 4126) ? 1 : 0, 1);
        due("number and itself", x.same(4110, 4110) ? 1 : 0, 1);
        x.meaning(22, 4, 7);
        x.meaning(23, 4, 8);
        due("numbers alike", x.same(4110, 4118) ? 1 : 0, 1);
        due("numbers not alike", x.same(4110, 4119) ? 1 : 0, 0);
        due("ifs not alike", x.same(4096, 4097) ? 1 : 0, 0);
        x.meaning(22, 5, 1);
        due("ifs alike", x.same(4118, 4097) ? 1 : 0, 1);
        due("else and or", x.same(4107, 4108) ? 1 : 0, 0);
        due("or and fi", x.same(4108, 4109) ? 1 : 0, 0);
        due("no token -1", x.same(-1, -1) ? 1 : 0, 0);
        due("no token 4136", x.same(4136, 4136) ? 1 : 0, 0);
        due("no token behind one", x.same(4125, 4136) ? 1 : 0, 0);
        due("least int", x.same(Integer.MIN_VALUE, 0) ? 1 : 0, 0);
        sameMacros();
    }

    private static void sameMacros() {
        ConditionText x = new ConditionText();
        for (int i = 0; i < 4; i++) {
            x.body();
        }
        x.token(0, 1);
        x.token(0, 2);
        x.token(1, 1);
        x.token(1, 2);
        x.token(2, 1);
        x.token(3, 1);
        x.token(3, 3);
        for (int i = 0; i < 4; i++) {
            x.meaning(i, 2, i);
            x.meaning(10 + i, 3, i);
        }
        due("same tokens", x.same(4096, 4097) ? 1 : 0, 1);
        due("fewer tokens", x.same(4096, 4098) ? 1 : 0, 0);
        due("more tokens", x.same(4098, 4096) ? 1 : 0, 0);
        due("another token", x.same(4096, 4099) ? 1 : 0, 0);
        due("outer and not", x.same(4096, 4106) ? 1 : 0, 0);
        due("both outer", x.same(4106, 4107) ? 1 : 0, 1);
        x.token(2, 2);
        due("as the bodies are now", x.same(4096, 4098) ? 1 : 0, 1);
        x.meaning(20, 0, 0);
        due("macro and none", x.same(4096, 4116) ? 1 : 0, 0);
    }

    private static void count() {
        ConditionText x = new ConditionText();
        x.body();
        x.body();
        x.token(0, 1);
        x.token(1, 1);
        x.token(1, 1);
        x.token(-1, 1);
        due("bodies", x.count(0), 2);
        due("input", x.count(1), 1);
        due("tokens of bodies", x.count(2), 3);
        due("3", x.count(3), -2);
        due("-1", x.count(-1), -2);
        x.run();
        due("the input stays", x.count(1), 1);
    }

    // ---- Promises 8 to 11: runs

    private static void plainRuns() {
        Subject x = prepared();
        expect("nothing", x, "", "");
        x.meaning(20, 1, 77);
        expect("as they stand", x, "a 1 _ @20 seven @30 #0 #4095", "a 1 _ @20 seven @30 #0 #4095");
        expectTold("plain", x, 8, 8, 0, 0, 0, 0, 0);
        due("at -1", x.at(-1), -1);
        due("at behind", x.at(8), -1);
        due("told -1", x.told(-1), -2);
        due("told 7", x.told(7), -2);
    }

    private static void trueAndFalse() {
        Subject x = prepared();
        expect("true", x, "p if5 a b else c d e fi q", "p a b q");
        expectTold("true", x, 10, 4, 1, 1, 3, 0, 0);
        due("true", x.decided(0), 1);
        expect("false", x, "p if6 a b else c d e fi q", "p c d e q");
        expectTold("false", x, 10, 5, 1, 1, 2, 0, 0);
        due("false", x.decided(0), 0);
        expect("true without else", x, "if5 a fi b", "a b");
        expect("false without else", x, "if6 a fi b", "b");
        expect("empty parts", x, "if5 else fi if6 else fi if5 fi if6 fi", "");
        expectTold("empty parts", x, 10, 0, 4, 1, 0, 0, 0);
        expect("within one another", x, "if5 if6 a else b fi c else if5 d fi fi e", "b c e");
        expectTold("within one another", x, 13, 3, 2, 2, 4, 0, 0);
    }

    private static void cases() {
        Subject x = prepared();
        expect("first", x, "if7 0 _ a or b or c else d fi e", "a e");
        expectTold("first", x, 12, 2, 1, 1, 3, 0, 0);
        due("first", x.decided(0), 2);
        expect("second", x, "if7 1 _ a or b or c else d fi e", "b e");
        expectTold("second", x, 12, 2, 1, 1, 3, 0, 0);
        due("second", x.decided(0), 3);
        expect("third", x, "if7 2 _ a or b or c else d fi e", "c e");
        expect("else", x, "if7 3 _ a or b or c else d fi e", "d e");
        expect("far", x, "if7 9 9 9 9 9 9 9 9 9 _ a or b else d fi e", "d e");
        due("far", x.decided(0), 1000000001);
        expect("below 0", x, "if7 - 1 _ a or b or c else d fi e", "d e");
        due("below 0", x.decided(0), -1);
        expect("far below 0", x, "if7 - 4 _ a or b fi e", "e");
        due("far below 0", x.decided(0), -1);
        expect("-2 is below 0", x, "if7 - 2 _ a fi", "");
        due("-2", x.decided(0), -1);
        expect("no such part", x, "if7 2 _ a or b fi e", "e");
        expect("no ors", x, "if7 0 _ a else b fi", "a");
        expect("no ors, else", x, "if7 1 _ a else b fi", "b");
        expect("last part", x, "if7 1 _ a or b fi", "b");
        expect("inner ors", x, "if7 1 _ if7 0 _ p or q fi or b or c fi", "b");
        expect("inner case gone through", x, "if7 0 _ if7 1 _ p or q or r fi s or b fi", "q s");
    }

    private static void skippedConditions() {
        Subject x = prepared();
        put(x, 0, "q");
        x.meaning(20, 2, 0);
        x.meaning(21, 3, 0);
        expect("inner marks", x, "if6 if5 a else b or c else d fi e else f fi", "f");
        expectTold("inner marks", x, 14, 1, 1, 1, 10, 0, 0);
        expect("macros are not gone on with", x, "if6 @20 fi @20", "q");
        expectTold("macros are not gone on with", x, 5, 1, 1, 1, 1, 0, 0);
        expectFault("outer", x, "z if6 a @21 fi", 7, "z");
        expectTold("outer", x, 4, 1, 1, 1, 1, 1, 7);
        expectFault("outer behind the else", x, "if5 a else @21 fi", 7, "a");
        expectFault("outer deeper", x, "if6 if5 @21 fi fi", 7, "");
        expectFault("outer in a skipped part", x, "if7 1 _ @21 or a fi", 7, "");
        expect("outer elsewhere", x, "@21 if5 @21 fi if0 @21 q a fi", "q q a");
        x.body();
        put(x, 1, "fi");
        x.meaning(23, 2, 1);
        expect("fi in a macro closes", x, "if5 a @23 b", "a b");
        expectFault("but not where it is skipped", x, "if6 a @23 b", 1, "");
        expect("ifs are counted, not opened", x, times("if6 ", 25) + times("fi ", 25), "");
        expectTold("ifs are counted, not opened", x, 50, 0, 1, 1, 48, 0, 0);
    }

    private static void codesAndCategories() {
        Subject x = prepared();
        put(x, 0, "@30");
        x.meaning(20, 2, 0);
        x.meaning(21, 1, 11 * 256 + 'a');
        expect("codes", x, "if0 a a p else q fi", "p");
        expect("codes of other categories", x, "if0 1 #49 p else q fi", "p");
        expect("other codes", x, "if0 a b p else q fi", "q");
        expect("names", x, "if0 @30 seven p else q fi", "p");
        expect("name and sign", x, "if0 @30 #0 p else q fi", "q");
        expect("name that is a sign", x, "if0 @21 a p else q fi", "p");
        expect("name that is a sign, and none", x, "if0 @21 @30 p else q fi", "q");
        expect("macro", x, "if0 @20 @31 p else q fi", "p");
        expect("categories", x, "if1 a b p else q fi", "p");
        expect("other categories", x, "if1 a 1 p else q fi", "q");
        expect("categories of names", x, "if1 @30 seven p else q fi", "p");
        expect("category of a name that is a sign", x, "if1 @21 b p else q fi", "p");
        expect("no category 0", x, "if1 @30 #0 p else q fi", "q");
        expect("nor 15", x, "if1 @30 #4095 p else q fi", "q");
        expectTold("nor 15", x, 7, 1, 1, 1, 1, 0, 0);
    }

    private static void meaningsInConditions() {
        Subject x = prepared();
        put(x, 0, "a");
        x.body();
        put(x, 1, "a");
        x.meaning(20, 2, 0);
        x.meaning(21, 2, 1);
        x.meaning(22, 3, 1);
        x.meaning(23, 1, 11 * 256 + 'a');
        expect("signs", x, "if2 a a p else q fi", "p");
        expect("sign of other category", x, "if2 1 #49 p else q fi", "q");
        expect("name as its sign", x, "if2 @23 a p else q fi", "p");
        expect("macros", x, "if2 @20 @21 p else q fi", "p");
        expect("outer and not", x, "if2 @20 @22 p else q fi", "q");
        expect("macro and its token", x, "if2 @20 a p else q fi", "q");
        expect("ifs as they stand", x, "if2 if5 if5 p else q fi", "p");
        expect("other ifs", x, "if2 if5 if6 p else q fi", "q");
        expect("marks as they stand", x, "if2 fi fi p else q fi", "p");
        expect("other marks", x, "if2 else or p else q fi", "q");
        expect("no meanings", x, "if2 @30 @31 p else q fi", "p");
        expectTold("no meanings", x, 7, 1, 1, 1, 1, 0, 0);
    }

    private static void numbers() {
        Subject x = prepared();
        x.meaning(20, 1, 12 * 256 + '1');
        x.meaning(21, 1, BLANK);
        x.meaning(22, 1, 12 * 256 + '-');
        x.meaning(23, 4, -3);
        expect("odd", x, "if4 3 _ a else b fi", "a");
        expect("even", x, "if4 1 2 _ a else b fi", "b");
        expect("odd below 0", x, "if4 - 3 _ a else b fi", "a");
        expect("zero", x, "if4 0 _ a else b fi", "b");
        expect("a name's number", x, "if4 seven a else b fi", "a");
        expect("no blank is away behind a name", x, "if4 seven _ a fi", "_ a");
        expect("one blank is away", x, "if4 7 _ _ a fi", "_ a");
        expect("any of category 10", x, "if4 7 #2560 #2815 a fi", "#2815 a");
        expect("the last of category 10", x, "if4 7 #2815 a fi", "a");
        expect("not of category 9", x, "if4 7 #2559 a fi", "#2559 a");
        expect("nor 11", x, "if4 7 #2816 a fi", "#2816 a");
        expect("name of a blank stays", x, "if4 7 @21 a fi", "@21 a");
        expect("name of a digit ends", x, "if4 7 @20 a fi", "@20 a");
        expect("digit of other category ends", x, "if4 7 #49 a fi", "#49 a");
        expect("sign ends", x, "if4 7 - a fi", "- a");
        expect("name of a number ends", x, "if4 7 seven a fi", "seven a");
        expect("else ends", x, "if4 7 else a fi", "");
        expect("fi ends", x, "if4 7 fi a", "a");
        expect("or ends", x, "if7 1 or a fi", "a");
        expect("signs turn", x, "if3 - + - - 5 = - 5 _ a else b fi", "a");
        expect("a name's number is turned", x, "if3 - @23 = 3 _ a else b fi", "a");
        expect("nine digits", x, "if3 9 9 9 9 9 9 9 9 9 > 9 9 9 9 9 9 9 9 8 _ a fi", "a");
        expect("leading zeros", x, "if3 0 0 0 0 0 0 0 0 7 = seven a fi", "a");
        expectFault("ten digits", x, "if4 1 2 3 4 5 6 7 8 9 0 a fi", 8, "");
        expectTold("ten digits", x, 11, 0, 1, 1, 0, 1, 8);
        expectFault("ten zeros", x, "if4 0 0 0 0 0 0 0 0 0 0 a fi", 8, "");
        expectFault("no number", x, "if4 a fi", 3, "");
        expectFault("sign and no number", x, "if4 - a fi", 3, "");
        expectFault("blank before a number", x, "if4 _ 7 fi", 3, "");
        expectFault("name of a digit", x, "if4 @20 fi", 3, "");
        expectFault("name of a minus", x, "if4 @22 1 fi", 3, "");
        expectFault("name without meaning", x, "if4 @30 fi", 3, "");
        expectFault("digit of other category", x, "if4 #49 fi", 3, "");
        expectFault("minus of other category", x, "if4 #45 1 fi", 3, "");
        expectFault("fi instead", x, "if4 fi", 3, "");
        expectFault("fi behind a sign", x, "if4 - fi", 3, "");
    }

    private static void relations() {
        Subject x = prepared();
        x.meaning(20, 1, 12 * 256 + '=');
        int[] left = {1, 2, 3};
        for (int a : left) {
            expect("less", x, "if3 " + a + " < 2 _ a else b fi", a < 2 ? "a" : "b");
            expect("same", x, "if3 " + a + " = 2 _ a else b fi", a == 2 ? "a" : "b");
            expect("greater", x, "if3 " + a + " > 2 _ a else b fi", a > 2 ? "a" : "b");
        }
        expect("below 0", x, "if3 - 9 < seven a else b fi", "a");
        expect("blank behind the first", x, "if3 1 _ < 2 _ a else b fi", "a");
        expectFault("two blanks", x, "if3 1 _ _ < 2 _ a else b fi", 4, "");
        expectFault("no relation", x, "if3 1 a fi", 4, "");
        expectFault("of other category", x, "if3 1 #61 1 fi", 4, "");
        expectFault("name of one", x, "if3 1 @20 1 fi", 4, "");
        expectFault("code 59", x, "if3 1 #3131 1 fi", 4, "");
        expectFault("code 63", x, "if3 1 #3135 1 fi", 4, "");
        expectFault("number's name instead", x, "if3 1 seven 1 fi", 4, "");
        expectFault("fi instead", x, "if3 1 fi", 6, "");
        expectTold("fi instead", x, 3, 0, 1, 1, 0, 1, 6);
        expectFault("no second number", x, "if3 1 < a fi", 3, "");
    }

    private static void knownNames() {
        Subject x = prepared();
        put(x, 0, "a");
        x.meaning(20, 2, 0);
        x.meaning(21, 3, 0);
        String[] known = {"a", "#0", "@20", "@21", "seven", "if5", "else", "or", "fi"};
        for (String word : known) {
            expect("known " + word, x, "if8 " + word + " p else q fi", "p");
        }
        expect("unknown", x, "if8 @30 p else q fi", "q");
        expectTold("unknown", x, 6, 1, 1, 1, 1, 0, 0);
        due("unknown", x.decided(0), 0);
    }

    private static void modesAndFilesInConditions() {
        Subject x = prepared();
        x.mode(3, true);
        x.end(7, true);
        expect("mode", x, "if9 3 _ a else b fi", "a");
        expect("file", x, "if10 seven a else b fi", "a");
        expect("minus 0", x, "if9 - 0 _ a else b fi", "b");
        expectFault("mode 4", x, "if9 4 _ a else b fi", 8, "");
        expectFault("mode -1", x, "if9 - 1 _ a else b fi", 8, "");
        expectFault("file 8", x, "if10 8 _ a else b fi", 8, "");
        expectFault("file -1", x, "if10 - 1 _ a else b fi", 8, "");
        due("not decided", x.decided(0), -5);
    }

    private static void conditionsWithinAskings() {
        Subject x = prepared();
        put(x, 0, "fi");
        x.meaning(20, 2, 0);
        expect("a sign from a condition", x, "if0 if5 a else b fi a p else q fi", "p");
        expectTold("a sign from a condition", x, 11, 1, 2, 2, 2, 0, 0);
        expect("a sign from an else", x, "if0 if6 b else a fi a p else q fi", "p");
        expect("closed by a macro", x, "if0 if5 a @20 a p else q fi", "p");
        expect("empty conditions", x, "if0 if5 fi if6 fi a if6 b fi a p else q fi", "p");
        expect("digits within", x, "if3 1 if5 2 fi 3 = 1 2 3 _ p else q fi", "p");
        expect("fi behind digits closes", x, "if4 if5 3 fi _ p else q fi", "p");
        expect("else behind digits skips", x, "if4 if5 3 else 4 fi 5 _ p else q fi", "p");
        expect("case within", x, "if7 if7 2 _ 0 or 1 or 2 or 3 fi _ a or b or c fi", "c");
        due("outer", x.decided(0), 4);
        due("inner", x.decided(1), 4);
        expect("inner number ended by its own fi", x, "if4 if4 3 fi 5 _ p else q fi", "p");
        due("outer", x.decided(0), 1);
        due("inner", x.decided(1), 1);
        expect("second token may close", x, "if0 if5 a fi a p fi", "p");
        expect("in the relation", x, "if3 1 if5 < fi 2 _ p fi", "p");
        String deep = times("if4 ", 20) + times("1 fi ", 19) + "1 _ p fi";
        expect("twenty within", x, deep, "p");
        expectTold("twenty within", x, 62, 1, 20, 20, 0, 0, 0);
        expectFault("one more", x, "if4 " + deep, 5, "");
        expectTold("one more", x, 21, 0, 20, 20, 0, 20, 5);
    }

    private static void macros() {
        Subject x = prepared();
        put(x, 0, "if5 a @21 b");
        x.body();
        put(x, 1, "else c");
        x.body();
        x.body();
        put(x, 3, "1 2");
        x.meaning(20, 2, 0);
        x.meaning(21, 2, 1);
        x.meaning(22, 2, 2);
        x.meaning(23, 3, 3);
        expect("parts of a condition", x, "@20 d fi e", "a e");
        expectTold("parts of a condition", x, 10, 2, 1, 1, 3, 0, 0);
        expect("empty", x, "a @22 b @22", "a b");
        expectTold("empty", x, 4, 2, 0, 0, 0, 0, 0);
        expect("digits", x, "if3 @23 @22 3 = 1 @22 2 3 @22 _ p else q fi", "p");
        expect("outer macro in a number", x, "if3 1 2 = @23 _ p else q fi", "p");
        x.token(3, 12 * 256 + '3');
        expect("as the body is then", x, "@23", "1 2 3");
    }

    private static void misplacedMarks() {
        Subject x = prepared();
        for (String mark : new String[] {"else", "or", "fi"}) {
            expectFault("none open", x, "a " + mark + " b", 2, "a");
            expectTold("none open", x, 2, 1, 0, 0, 0, 0, 2);
            expectFault("none open any more", x, "if5 fi " + mark, 2, "");
        }
        expectFault("or in true", x, "if5 a or b fi", 2, "a");
        expectTold("or in true", x, 3, 1, 1, 1, 0, 1, 2);
        expectFault("or in false", x, "if6 a or b fi", 2, "");
        expectTold("or in false", x, 3, 0, 1, 1, 1, 1, 2);
        expectFault("or behind true's else", x, "if5 a else b or fi", 2, "a");
        expectFault("else behind true's else", x, "if5 a else b else fi", 2, "a");
        expectTold("else behind true's else", x, 5, 1, 1, 1, 1, 1, 2);
        expectFault("or behind false's else", x, "if6 a else b or fi", 2, "b");
        expectFault("else behind false's else", x, "if6 a else b else fi", 2, "b");
        expectFault("or behind a case's else, gone through", x, "if7 2 _ a else b or c fi", 2, "b");
        expectFault("else behind a case's else, gone through", x, "if7 2 _ a else b else c fi", 2, "b");
        expectFault("or behind a case's else, skipped", x, "if7 0 _ a else b or c fi", 2, "a");
        expectFault("else behind a case's else, skipped", x, "if7 0 _ a or b else c else d fi", 2, "a");
        expectFault("in an asking", x, "if0 if5 or fi a fi", 2, "");
        expectFault("else twice in an asking", x, "if0 if6 else else fi a fi", 2, "");
        expect("deeper ones are not looked into", x, "if6 if5 else else or or fi fi a", "a");
    }

    private static void endsOfTokens() {
        Subject x = prepared();
        put(x, 0, "5");
        x.meaning(20, 2, 0);
        expectFault("open", x, "a if5 b", 1, "a b");
        expectTold("open", x, 3, 2, 1, 1, 0, 1, 1);
        due("decided all the same", x.decided(0), 1);
        expectFault("two open", x, "if5 if5 b", 1, "b");
        expectTold("two open", x, 3, 1, 2, 2, 0, 2, 1);
        expectFault("skipping", x, "if6 a b", 1, "");
        expectTold("skipping", x, 3, 0, 1, 1, 2, 1, 1);
        expectFault("skipping behind the else", x, "if5 a else b", 1, "a");
        String[] askings = {"if0", "if0 a", "if1", "if1 a", "if2", "if2 a", "if3", "if3 -", "if3 1", "if3 1 _", "if3 1 <",
            "if3 1 < 2", "if4", "if4 1", "if4 + -", "if4 @20", "if7", "if7 1", "if8", "if9", "if9 1", "if10", "if10 0"};
        for (String asking : askings) {
            expectFault("asked for: " + asking, x, asking, 1, "");
            due("not decided: " + asking, x.decided(0), -5);
        }
        expectFault("a blank was enough", x, "if4 1 _", 1, "");
        due("decided", x.decided(0), 1);
        expectFault("a name was enough", x, "if4 seven", 1, "");
        due("decided", x.decided(0), 1);
    }

    private static void askingFaults() {
        Subject x = prepared();
        for (String mark : new String[] {"else", "or", "fi"}) {
            expectFault("instead of the first", x, "if0 " + mark, 6, "");
            expectTold("instead of the first", x, 2, 0, 1, 1, 0, 1, 6);
            expectFault("instead of the second", x, "if1 a " + mark, 6, "");
            expectFault("open conditions around do not help", x, "if5 if5 if0 a " + mark, 6, "");
        }
        expectFault("number's end is no relation", x, "if3 1 else", 6, "");
        expectFault("still open: codes", x, "if0 if5 a a p fi fi", 6, "");
        expectTold("still open: codes", x, 4, 0, 2, 2, 0, 2, 6);
        due("outer", x.decided(0), -5);
        due("inner", x.decided(1), 1);
        expectFault("still open: number", x, "if4 if5 3 _ p fi fi", 6, "");
        expectFault("still open: name", x, "if4 if5 seven fi p fi", 6, "");
        expectFault("still open: case", x, "if7 if5 3 a fi p fi", 6, "");
        expectFault("still open: relation", x, "if3 if5 1 < 2 _ p fi fi", 6, "");
        expectFault("the inner asking has none of the outer's", x, "if0 if5 if0 fi a a fi", 6, "");
        expectFault("a mode that is none goes first", x, "if9 if5 4 _ a fi fi", 8, "");
    }

    private static void limits() {
        Subject x = prepared();
        put(x, 0, "a @20");
        x.body();
        put(x, 1, "@21");
        x.body();
        put(x, 2, "a a a a a a a a a a a a");
        x.body();
        put(x, 3, "@23 b b");
        x.meaning(20, 2, 0);
        x.meaning(21, 2, 1);
        x.meaning(22, 2, 2);
        x.meaning(23, 2, 3);
        expectFault("301st", x, "@20", 9, times("a ", 300));
        expectTold("301st", x, 602, 300, 0, 0, 0, 0, 9);
        expect("300", x, times("@22 ", 25), times("a ", 300));
        expectTold("300", x, 325, 300, 0, 0, 0, 0, 0);
        due("at 299", x.at(299), 11 * 256 + 'a');
        due("at 300", x.at(300), -1);
        expectFault("5001st step", x, "@21", 9, "");
        expectTold("5001st step", x, 5000, 0, 0, 0, 0, 0, 9);
        expectFault("5001st step, deep", x, "a @23", 9, "a");
        expectTold("5001st step, deep", x, 5000, 1, 0, 0, 0, 0, 9);
        expectFault("5001st step in an asking", x, "if0 @21", 9, "");
        expectTold("5001st step in an asking", x, 5000, 0, 1, 1, 0, 1, 9);
        due("not decided", x.decided(0), -5);
        openLimits(x);
        exactSteps();
        stepsEndWhileSkipping();
    }

    private static void openLimits(Subject x) {
        expect("20 open", x, times("if5 ", 20) + "a " + times("fi ", 20), "a");
        expectTold("20 open", x, 41, 1, 20, 20, 0, 0, 0);
        expectFault("21 open", x, times("if5 ", 21) + "a", 5, "");
        expectTold("21 open", x, 21, 0, 20, 20, 0, 20, 5);
        expect("21, one after another", x, times("if5 fi ", 21), "");
        expectTold("21, one after another", x, 42, 0, 21, 1, 0, 0, 0);
    }

    /** 5000 steps and no more tokens: that is no fault. */
    private static void exactSteps() {
        ConditionText x = with4999Steps();
        due("one step less", x.run(), 0);
        due("one step less", x.told(0), 4999);
        x.token(-1, 5);
        due("5000 steps", x.run(), 1);
        due("5000 steps", x.told(0), 5000);
        due("no fault", x.told(6), 0);
        x.token(-1, 5);
        due("one token more", x.run(), -9);
        due("one token more", x.told(0), 5000);
        due("put out before", x.told(1), 1);
    }

    private static void stepsEndWhileSkipping() {
        ConditionText x = with4999Steps();
        x.meaning(10, 5, 6);
        x.token(-1, 4106);
        due("no token to skip", x.run(), -1);
        x.token(-1, 5);
        due("no step to skip it", x.run(), -9);
        due("steps", x.told(0), 5000);
        due("not skipped", x.told(4), 0);
        due("open", x.told(5), 1);
        due("decided before", x.decided(0), 0);
    }

    /** An input that puts nothing out: name 0 makes 1 step, name 1 makes 13, name 2 makes 1 + 12 * 13 = 157. */
    private static ConditionText with4999Steps() {
        ConditionText x = new ConditionText();
        for (int i = 0; i < 3; i++) {
            x.body();
            x.meaning(i, 2, i);
        }
        for (int i = 0; i < 12; i++) {
            x.token(1, 4096);
            x.token(2, 4097);
        }
        for (int i = 0; i < 31; i++) {
            x.token(-1, 4098);
        }
        for (int i = 0; i < 10; i++) {
            x.token(-1, 4097);
        }
        x.token(-1, 4096);
        x.token(-1, 4096);
        return x;
    }

    private static void stepsOfTokensThatStay() {
        Subject x = prepared();
        expect("put out", x, "if4 1 a fi", "a");
        expectTold("put out", x, 4, 1, 1, 1, 0, 0, 0);
        expect("skipped", x, "if4 2 a fi", "");
        expectTold("skipped", x, 4, 0, 1, 1, 1, 0, 0);
        expect("fi", x, "if4 1 fi", "");
        expectTold("fi", x, 3, 0, 1, 1, 0, 0, 0);
        expect("relation", x, "if3 1 < 2 fi", "");
        expectTold("relation", x, 5, 0, 1, 1, 0, 0, 0);
        expect("stays twice", x, "if4 if4 1 fi 1 fi", "");
        expectTold("stays twice", x, 6, 0, 2, 2, 0, 0, 0);
        expect("if behind digits is opened", x, "if4 1 if6 a fi b fi", "b");
        expectTold("if behind digits is opened", x, 7, 1, 2, 2, 1, 0, 0);
    }

    private static void laterRuns() {
        Subject x = prepared();
        expectFault("a fault", x, "a b if5 c if6", 1, "a b c");
        due("again, as the input stays", x.run(), -1);
        due("and what was put out is there", x.at(2), 11 * 256 + 'c');
        due("three and no more", x.at(3), -1);
        due("input", x.clear(), 5);
        due("told stays until the next run", x.told(1), 3);
        due("at stays", x.at(0), 11 * 256 + 'a');
        put(x, -1, "d");
        due("later", x.run(), 1);
        expectTold("later", x, 1, 1, 0, 0, 0, 0, 0);
        due("later at 0", x.at(0), 11 * 256 + 'd');
        due("what was put out before is no more", x.at(1), -1);
        due("what was decided is no more", x.decided(0), -5);
        due("input", x.clear(), 1);
        due("run of nothing", x.run(), 0);
        due("nothing put out", x.at(0), -1);
        due("no step", x.told(0), 0);
    }

    /** What a fault left unread or kept must not come up in the next run. */
    private static void runsBehindFaults() {
        Subject x = prepared();
        put(x, 0, "fi p q");
        x.meaning(20, 2, 0);
        expectFault("a token kept", x, "if6 a b fi if9 4 c", 8, "");
        expectTold("a token kept", x, 7, 0, 2, 1, 2, 1, 8);
        due("the same again", x.run(), -8);
        expectTold("the same again", x, 7, 0, 2, 1, 2, 1, 8);
        x.clear();
        put(x, -1, "d");
        due("behind a kept token", x.run(), 1);
        due("behind a kept token", x.at(0), 11 * 256 + 'd');
        x.clear();
        put(x, -1, "@20 e f");
        due("a body unread", x.run(), -2);
        x.clear();
        put(x, -1, "g");
        due("behind an unread body", x.run(), 1);
        due("behind an unread body", x.at(0), 11 * 256 + 'g');
        due("behind an unread body", x.told(0), 1);
    }

    private static void decided() {
        Subject x = prepared();
        put(x, 0, "if5 fi if6 fi if5 fi if6 fi if5 fi if6 fi");
        x.meaning(20, 2, 0);
        expect("102 conditions", x, times("@20 ", 17), "");
        due("opened", x.told(2), 102);
        for (int i = 0; i < 100; i++) {
            due("decided " + i, x.decided(i), i % 2 == 0 ? 1 : 0);
        }
        due("decided 100", x.decided(100), -5);
        due("decided -1", x.decided(-1), -5);
        due("decided greatest", x.decided(Integer.MAX_VALUE), -5);
        expect("in the order of opening", x, "if4 if7 0 _ 1 fi _ if6 fi fi", "");
        due("first opened", x.decided(0), 1);
        due("second opened", x.decided(1), 2);
        due("third opened", x.decided(2), 0);
        due("none such", x.decided(3), -5);
    }
}
