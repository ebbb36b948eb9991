import java.util.ArrayDeque;
import java.util.ArrayList;
import java.util.Arrays;
import java.util.Deque;
import java.util.List;
import java.util.Random;

/** Random rows, gone through by the class and by a plain model that was written from the document alone. */
public final class ModelTest {
    private static final int OBJECTS = 40000;
    private static final int CALLS_MOST = 512;
    private static int wrong = 0;

    /** What ends a run of the model. */
    private static final class Fault extends RuntimeException {
        private static final long serialVersionUID = 1L;
        final int number;

        Fault(int number) {
            super(null, null, false, false);
            this.number = number;
        }
    }

    /** A token where it stands: one that has been looked at makes no step again. */
    private static final class Place {
        final int t;
        boolean seen;

        Place(int t) {
            this.t = t;
        }
    }

    private static final class Condition {
        final boolean isCase;
        boolean behindElse;

        Condition(boolean isCase) {
            this.isCase = isCase;
        }
    }

    private static final class Model {
        final int[] kind = new int[40];
        final int[] v = new int[40];
        final List<List<Integer>> bodies = new ArrayList<>();
        final List<Integer> input = new ArrayList<>();
        final boolean[] modes = new boolean[4];
        final boolean[] files = new boolean[8];
        final Deque<Place> row = new ArrayDeque<>();
        final List<Integer> out = new ArrayList<>();
        final List<Integer> decided = new ArrayList<>();
        final List<Condition> open = new ArrayList<>();
        int steps;
        int most;
        int skipped;
        int fault;

        int run() {
            row.clear();
            out.clear();
            decided.clear();
            open.clear();
            steps = 0;
            most = 0;
            skipped = 0;
            fault = 0;
            for (int t : input) {
                row.addLast(new Place(t));
            }
            try {
                while (!row.isEmpty()) {
                    step();
                }
                if (!open.isEmpty()) {
                    throw new Fault(1);
                }
            } catch (Fault met) {
                fault = met.number;
            }
            return fault == 0 ? out.size() : -fault;
        }

        void step() {
            Place p = take();
            if (works(p.t, 0)) {
                return;
            }
            if (kindOf(p.t) >= 6) {
                throw new Fault(2);
            }
            if (out.size() == 300) {
                throw new Fault(9);
            }
            out.add(p.t);
        }

        Place take() {
            if (row.isEmpty()) {
                throw new Fault(1);
            }
            Place p = row.peekFirst();
            if (!p.seen) {
                if (steps == 5000) {
                    throw new Fault(9);
                }
                steps++;
                p.seen = true;
            }
            return row.removeFirst();
        }

        int kindOf(int t) {
            return t < 4096 ? 1 : kind[t - 4096];
        }

        int valueOf(int t) {
            return t < 4096 ? t : v[t - 4096];
        }

        boolean works(int t, int reach) {
            int k = kindOf(t);
            if (k == 2 || k == 3) {
                List<Integer> body = bodies.get(valueOf(t));
                for (int i = body.size() - 1; i >= 0; i--) {
                    row.addFirst(new Place(body.get(i)));
                }
            } else if (k == 5) {
                condition(valueOf(t));
            } else if (k >= 6 && open.size() > reach) {
                mark(k);
            } else {
                return false;
            }
            return true;
        }

        Condition last() {
            return open.get(open.size() - 1);
        }

        void mark(int k) {
            note(k);
            while (k != 8) {
                k = skipToMark();
                note(k);
            }
        }

        /** An ELSE, OR or FI that belongs to the last condition: what is wrong with it, or what it changes. */
        void note(int k) {
            Condition c = last();
            if (k == 7 && !c.isCase || k != 8 && c.behindElse) {
                throw new Fault(2);
            }
            c.behindElse |= k == 6;
            if (k == 8) {
                open.remove(open.size() - 1);
            }
        }

        int skipToMark() {
            while (true) {
                int k = kindOf(take().t);
                if (k >= 6) {
                    return k;
                }
                if (k == 3) {
                    throw new Fault(7);
                }
                skipped++;
                if (k == 5) {
                    skipInner();
                }
            }
        }

        void skipInner() {
            int k;
            do {
                k = skipToMark();
                skipped++;
            } while (k != 8);
        }

        void condition(int which) {
            if (open.size() == 20) {
                throw new Fault(5);
            }
            int index = decided.size();
            decided.add(-5);
            open.add(new Condition(which == 7));
            most = Math.max(most, open.size());
            int mine = open.size();
            int answer = asked(which, mine);
            if (open.size() != mine) {
                throw new Fault(6);
            }
            if (which == 7) {
                decided.set(index, answer < 0 ? -1 : answer + 2);
                toPart(answer);
            } else {
                decided.set(index, answer);
                toPart(answer == 1 ? 0 : -1);
            }
        }

        void toPart(int part) {
            int here = 0;
            while (here != part) {
                int k = skipToMark();
                note(k);
                if (k != 7) {
                    return;
                }
                here++;
            }
        }

        int asked(int which, int mine) {
            switch (which) {
                case 0: {
                    int a = part(sign(mine), true);
                    return a == part(sign(mine), true) ? 1 : 0;
                }
                case 1: {
                    int a = part(sign(mine), false);
                    return a == part(sign(mine), false) ? 1 : 0;
                }
                case 2: {
                    int a = take().t;
                    return same(a, take().t) ? 1 : 0;
                }
                case 3: {
                    int a = number(mine);
                    int relation = sign(mine) - 12 * 256;
                    if (relation < 60 || relation > 62) {
                        throw new Fault(4);
                    }
                    return Integer.compare(a, number(mine)) == relation - 61 ? 1 : 0;
                }
                case 4:
                    return Math.abs(number(mine)) % 2;
                case 5:
                    return 1;
                case 6:
                    return 0;
                case 7:
                    return number(mine);
                case 8:
                    return kindOf(take().t) == 0 ? 0 : 1;
                default: {
                    boolean[] switches = which == 9 ? modes : files;
                    int n = number(mine);
                    if (n < 0 || n >= switches.length) {
                        throw new Fault(8);
                    }
                    return switches[n] ? 1 : 0;
                }
            }
        }

        int part(int t, boolean code) {
            if (kindOf(t) != 1) {
                return code ? 256 : 16;
            }
            return code ? valueOf(t) % 256 : valueOf(t) / 256;
        }

        boolean same(int a, int b) {
            if (kindOf(a) != kindOf(b)) {
                return false;
            }
            if (kindOf(a) == 2 || kindOf(a) == 3) {
                return bodies.get(valueOf(a)).equals(bodies.get(valueOf(b)));
            }
            return valueOf(a) == valueOf(b);
        }

        Place goneOnWith(int mine) {
            Place p = take();
            while (works(p.t, mine)) {
                p = take();
            }
            return p;
        }

        int sign(int mine) {
            int t = goneOnWith(mine).t;
            if (kindOf(t) >= 6) {
                throw new Fault(6);
            }
            return t;
        }

        int number(int mine) {
            int turn = 1;
            Place p = goneOnWith(mine);
            while (p.t == 12 * 256 + 43 || p.t == 12 * 256 + 45) {
                turn = p.t == 12 * 256 + 45 ? -turn : turn;
                p = goneOnWith(mine);
            }
            if (kindOf(p.t) == 4) {
                return turn * valueOf(p.t);
            }
            StringBuilder digits = new StringBuilder();
            while (p.t >= 12 * 256 + 48 && p.t <= 12 * 256 + 57) {
                if (digits.length() == 9) {
                    throw new Fault(8);
                }
                digits.append((char) (p.t % 256));
                p = goneOnWith(mine);
            }
            if (digits.length() == 0) {
                throw new Fault(3);
            }
            if (p.t / 256 != 10) {
                row.addFirst(p);
            }
            return turn * Integer.parseInt(digits.toString());
        }

        int told(int what) {
            int[] all = {steps, out.size(), decided.size(), most, skipped, open.size(), fault};
            return all[what];
        }
    }

    /** The class and the model side by side, and how many calls the class has had. */
    private static final class Pair {
        final ConditionText x = new ConditionText();
        final Model model = new Model();
        final Random random;
        final String label;
        int calls;

        Pair(Random random, String label) {
            this.random = random;
            this.label = label;
        }

        void due(String call, int got, int want) {
            calls++;
            if (got != want) {
                wrong++;
                System.out.println(label + ": " + call + " answered " + got + ", due is " + want + " for " + model.input
                    + " kinds " + Arrays.toString(model.kind) + " v " + Arrays.toString(model.v)
                    + " bodies " + model.bodies);
            }
        }

        void give(int name, int kind, int v) {
            model.kind[name] = kind;
            model.v[name] = v;
            due("meaning", x.meaning(name, kind, v), 1);
        }

        void prepare() {
            for (int i = 0; i <= 10; i++) {
                give(i, 5, i);
            }
            give(11, 6, 0);
            give(12, 7, 0);
            give(13, 8, 0);
            give(14, 4, random.nextInt(9) - 2);
            give(15, 1, 12 * 256 + 48 + random.nextInt(3));
            give(16, 1, random.nextInt(4096));
            int bodies = 1 + random.nextInt(5);
            for (int b = 0; b < bodies; b++) {
                due("body", x.body(), b);
                model.bodies.add(new ArrayList<>());
                give(20 + b, 2 + (random.nextInt(5) == 0 ? 1 : 0), b);
            }
            for (int b = 0; b < bodies; b++) {
                for (int t : row(random.nextInt(9), b)) {
                    model.bodies.get(b).add(t);
                    due("token", x.token(b, t), model.bodies.get(b).size());
                }
            }
            for (int i = 0; i < 2; i++) {
                int mode = random.nextInt(4);
                int file = random.nextInt(8);
                model.modes[mode] = true;
                model.files[file] = true;
                due("mode", x.mode(mode, true), 1);
                due("end", x.end(file, true), 1);
            }
        }

        /** Loops of macros are wanted, but seldom: most bodies name later ones alone. */
        List<Integer> row(int length, int body) {
            List<Integer> tokens = new ArrayList<>();
            while (tokens.size() < length) {
                tokens.add(any(random.nextInt(12) == 0 ? 0 : body + 1));
            }
            return tokens;
        }

        int any(int firstBody) {
            int last = model.bodies.size();
            switch (random.nextInt(16)) {
                case 0:
                case 1:
                case 2:
                    return 4096 + random.nextInt(11);
                case 3:
                    return 4107;
                case 4:
                    return 4108;
                case 5:
                case 6:
                case 7:
                    return 4109;
                case 8:
                    return 11 * 256 + 97 + random.nextInt(2);
                case 9:
                case 10:
                    return 12 * 256 + 48 + random.nextInt(4);
                case 11:
                    return 12 * 256 + 60 + random.nextInt(3);
                case 12:
                    return 4110 + random.nextInt(4);
                case 13:
                    return random.nextInt(3) > 0 ? 2592 : 12 * 256 + 43 + 2 * random.nextInt(2);
                case 14:
                    return firstBody < last ? 4116 + firstBody + random.nextInt(last - firstBody) : 2913;
                default:
                    return random.nextInt(20) == 0 ? random.nextInt(4136) : 2914;
            }
        }

        /** A well formed piece, so that not every run ends early. */
        void piece(List<Integer> to, int depth) {
            int which = random.nextInt(11);
            to.add(4096 + which);
            question(to, which, depth);
            stuff(to, depth);
            for (int i = random.nextInt(3); which == 7 && i > 0; i--) {
                to.add(4108);
                stuff(to, depth);
            }
            if (random.nextBoolean()) {
                to.add(4107);
                stuff(to, depth);
            }
            to.add(4109);
        }

        void question(List<Integer> to, int which, int depth) {
            if (which <= 1) {
                wrapped(to, 2913 + random.nextInt(2), depth);
                wrapped(to, random.nextBoolean() ? 2913 : 4111 + random.nextInt(3), depth);
            } else if (which == 2) {
                to.add(any(0));
                to.add(any(0));
            } else if (which == 8) {
                to.add(any(0));
            } else if (which == 3) {
                number(to, 3, depth);
                wrapped(to, 12 * 256 + 60 + random.nextInt(3), depth);
                number(to, 3, depth);
            } else if (which != 5 && which != 6) {
                number(to, which == 9 ? 4 : 8, depth);
            }
        }

        void number(List<Integer> to, int below, int depth) {
            if (random.nextInt(8) == 0) {
                to.add(12 * 256 + 43 + 2 * random.nextInt(2));
            }
            if (random.nextInt(6) == 0) {
                to.add(4110);
                return;
            }
            if (random.nextInt(20) == 0) {
                for (int i = 4 + random.nextInt(6); i > 0; i--) {
                    to.add(12 * 256 + 48);
                }
            }
            wrapped(to, 12 * 256 + 48 + random.nextInt(below), depth);
            if (random.nextInt(4) > 0) {
                to.add(2592);
            }
        }

        /** A token, at times out of a condition or with one before it. */
        void wrapped(List<Integer> to, int t, int depth) {
            int how = depth > 0 ? random.nextInt(8) : 7;
            if (how == 0) {
                to.addAll(Arrays.asList(4101, t, 4109));
            } else if (how == 1) {
                to.addAll(Arrays.asList(4102, 2913, 4107, t, 4109));
            } else if (how == 2) {
                to.add(4100);
                number(to, 4, depth - 1);
                to.addAll(Arrays.asList(t, 4107, t, 4109));
            } else if (how == 3) {
                to.addAll(Arrays.asList(4101, t, 4107, 2914, 4109));
            } else {
                to.add(t);
            }
        }

        void stuff(List<Integer> to, int depth) {
            for (int i = random.nextInt(3); i > 0; i--) {
                if (depth > 0 && random.nextInt(3) == 0) {
                    piece(to, depth - 1);
                } else {
                    to.add(random.nextInt(6) == 0 ? 4116 + random.nextInt(5) : 2913 + random.nextInt(20));
                }
            }
        }

        List<Integer> wellFormed() {
            List<Integer> tokens = new ArrayList<>();
            if (random.nextInt(20) == 0) {
                for (int i = 15 + random.nextInt(8); i > 0; i--) {
                    tokens.add(4101);
                }
            }
            for (int i = 1 + random.nextInt(4); i > 0; i--) {
                piece(tokens, 4);
            }
            if (random.nextInt(3) == 0) {
                tokens.set(random.nextInt(tokens.size()), any(0));
            }
            return tokens.size() > 100 ? tokens.subList(0, 100) : tokens;
        }

        void round() {
            due("clear", x.clear(), model.input.size());
            model.input.clear();
            for (int t : random.nextInt(4) == 0 ? row(random.nextInt(40), -1) : wellFormed()) {
                model.input.add(t);
                due("token", x.token(-1, t), model.input.size());
            }
            due("run", x.run(), model.run());
            for (int what = 0; what <= 6; what++) {
                due("told " + what, x.told(what), model.told(what));
            }
            for (int i = 0; i <= Math.min(model.decided.size(), 20); i++) {
                due("decided " + i, x.decided(i), i < model.decided.size() ? model.decided.get(i) : -5);
            }
            int shown = Math.min(model.out.size(), 30);
            for (int i = 0; i < shown; i++) {
                int from = model.out.size() - 1 - i;
                due("at " + from, x.at(from), model.out.get(from));
            }
            due("at the end", x.at(model.out.size()), -1);
            int a = any(0);
            int b = any(0);
            due("same " + a + " " + b, x.same(a, b) ? 1 : 0, model.same(a, b) ? 1 : 0);
        }
    }

    public static void main(String[] args) {
        int[] faults = new int[10];
        for (int i = 0; i < OBJECTS && wrong < 20; i++) {
            Pair pair = new Pair(new Random(i), "object " + i);
            pair.prepare();
            // A round takes at most 168 calls.
            while (pair.calls < CALLS_MOST - 168) {
                pair.round();
                faults[pair.model.fault]++;
            }
        }
        System.out.println("runs by fault: " + Arrays.toString(faults));
        for (int fault = 0; fault < faults.length; fault++) {
            if (faults[fault] == 0 && wrong == 0) {
                wrong++;
                System.out.println("no run met fault " + fault);
            }
        }
        if (wrong > 0) {
            System.exit(1);
        }
    }
}
