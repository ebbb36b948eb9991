import java.util.ArrayList;
import java.util.List;
import java.util.function.Consumer;
import java.util.function.ToIntFunction;

/**
 * What the tests share: objects that are prepared and made anew, and rows that are written as words.
 *
 * A letter is a sign of category 11; a digit, + - < = > one of category 12; _ a blank (category 10); if0 .. if10,
 * else, or, fi the names 0 .. 13 of those kinds; seven a name that is the number 7; @k the name k; #k the token that
 * is told as k.
 */
abstract class RowTest {
    static final int SEVEN = 14;
    static final int A = 11 * 256 + 'a';
    static final int BLANK = 10 * 256 + 32;
    private static final int CALLS_MOST = 512;
    private static int wrong = 0;

    /**
     * An object and the calls that prepared it. The document promises nothing behind 512 calls, so that each row
     * that is tried gets a new object with the same preparation.
     */
    static final class Subject {
        private final List<Consumer<ConditionText>> preparation = new ArrayList<>();
        private ConditionText now = new ConditionText();
        private int calls = 0;

        void renew() {
            now = new ConditionText();
            calls = preparation.size();
            for (Consumer<ConditionText> call : preparation) {
                call.accept(now);
            }
        }

        private int call(ToIntFunction<ConditionText> call) {
            calls++;
            due("a test makes no more calls than the document allows", Math.max(calls, CALLS_MOST), CALLS_MOST);
            return call.applyAsInt(now);
        }

        private int prepare(ToIntFunction<ConditionText> call) {
            preparation.add(call::applyAsInt);
            return call(call);
        }

        int meaning(int name, int kind, int v) {
            return prepare(x -> x.meaning(name, kind, v));
        }

        int body() {
            return prepare(ConditionText::body);
        }

        int token(int body, int t) {
            return body == -1 ? call(x -> x.token(body, t)) : prepare(x -> x.token(body, t));
        }

        int mode(int mode, boolean on) {
            return prepare(x -> x.mode(mode, on));
        }

        int end(int file, boolean on) {
            return prepare(x -> x.end(file, on));
        }

        int clear() {
            return call(ConditionText::clear);
        }

        int run() {
            return call(ConditionText::run);
        }

        int at(int i) {
            return call(x -> x.at(i));
        }

        int told(int what) {
            return call(x -> x.told(what));
        }

        int decided(int i) {
            return call(x -> x.decided(i));
        }

        boolean same(int a, int b) {
            return call(x -> x.same(a, b) ? 1 : 0) == 1;
        }

        int count(int what) {
            return call(x -> x.count(what));
        }
    }

    /** The names that words stand for, and body 0, still without tokens. */
    static Subject prepared() {
        Subject x = new Subject();
        for (int i = 0; i <= 10; i++) {
            x.meaning(i, 5, i);
        }
        x.meaning(11, 6, 0);
        x.meaning(12, 7, 0);
        x.meaning(13, 8, 0);
        x.meaning(SEVEN, 4, 7);
        x.body();
        return x;
    }

    static String times(String text, int n) {
        return text.repeat(n);
    }

    static void put(Subject x, int row, String text) {
        for (String word : text.trim().split("\\s+")) {
            if (!word.isEmpty() && x.token(row, read(word)) < 0) {
                due("no room for " + word + " of " + text, 1, 0);
            }
        }
    }

    static int read(String word) {
        char first = word.charAt(0);
        switch (word) {
            case "else":
                return 4107;
            case "or":
                return 4108;
            case "fi":
                return 4109;
            case "seven":
                return 4096 + SEVEN;
            case "_":
                return BLANK;
            default:
                break;
        }
        if (first == '@') {
            return 4096 + Integer.parseInt(word.substring(1));
        }
        if (first == '#') {
            return Integer.parseInt(word.substring(1));
        }
        if (word.startsWith("if")) {
            return 4096 + Integer.parseInt(word.substring(2));
        }
        return (Character.isLetter(first) ? 11 : 12) * 256 + first;
    }

    static void expect(String what, Subject x, String input, String out) {
        expectAnswer(what, x, input, 0, out);
    }

    static void expectFault(String what, Subject x, String input, int fault, String out) {
        expectAnswer(what, x, input, fault, out);
    }

    private static void expectAnswer(String what, Subject x, String input, int fault, String out) {
        String label = what + " [" + input + "]";
        String[] words = out.trim().isEmpty() ? new String[0] : out.trim().split("\\s+");
        x.renew();
        put(x, -1, input);
        due(label + " run", x.run(), fault == 0 ? words.length : -fault);
        due(label + " told 1", x.told(1), words.length);
        due(label + " told 6", x.told(6), fault);
        for (int i = 0; i < words.length; i++) {
            due(label + " at " + i, x.at(i), read(words[i]));
        }
        due(label + " at the end", x.at(words.length), -1);
    }

    static void expectTold(String what, Subject x, int... due) {
        for (int i = 0; i < due.length; i++) {
            due(what + ": told " + i, x.told(i), due[i]);
        }
    }

    static void due(String call, int got, int want) {
        if (got != want) {
            wrong++;
            System.out.println(call + " answered " + got + ", due is " + want);
        }
    }

    static void due(String call, boolean got, boolean want) {
        due(call, got ? 1 : 0, want ? 1 : 0);
    }

    static void finish() {
        if (wrong > 0) {
            System.exit(1);
        }
    }
}
