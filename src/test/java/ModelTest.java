import java.util.ArrayList;
import java.util.Collections;
import java.util.HashSet;
import java.util.LinkedHashMap;
import java.util.List;
import java.util.Map;
import java.util.NoSuchElementException;
import java.util.Set;
import java.util.TreeMap;
import java.util.function.Supplier;

/** Long runs of calls on the desk and on a slow, plain model of the document: all answers must be the same. */
public final class ModelTest {

    private static int wrong = 0;

    public static void main(String[] args) {
        int runs = args.length > 0 ? Integer.parseInt(args[0]) : 1000;
        long seed = args.length > 1 ? Long.parseLong(args[1]) : 1;
        Map<String, Integer> seen = new TreeMap<>();
        for (int run = 0; run < runs && wrong < 10; run++) {
            new Run(seed * 1000003 + run, run % 8, seen).go();
        }
        if (args.length > 0) {
            seen.forEach((what, times) -> System.out.println(times + " " + what));
        }
        String[] due = {"unify !", "stays -9", "step 0 GREAT", "ways -9", "way !", "term -9", "common -9", "deep -9",
            "deep throws", "ways many", "steps 20", "stays 0", "stays 1", "stays 2", "big sides left"};
        for (String each : due) {
            if (args.length == 0 && seen.getOrDefault(each, 0) == 0) {
                wrong++;
                System.out.println("never met: " + each);
            }
        }
        System.out.println(wrong == 0 ? "the desk answers as the model" : wrong + " wrong");
        System.exit(wrong == 0 ? 0 : 1);
    }

    // ---- one run

    private static final class Run {
        private final List<String> calls = new ArrayList<>();
        private final Matchmakingdesk desk = new Matchmakingdesk();
        private final Model model = new Model();
        private final Map<String, Integer> seen;
        private final int kind;
        private long state;
        private boolean isGood = true;

        Run(long seed, int kind, Map<String, Integer> seen) {
            this.state = seed * 6364136223846793005L + 1442695040888963407L;
            this.kind = kind;
            this.seen = seen;
        }

        int below(int bound) {
            state = state * 6364136223846793005L + 1442695040888963407L;
            return (int) ((state >>> 33) % bound);
        }

        void go() {
            int most = 60 + below(kind == 7 ? 440 : 160);
            for (int i = 0; i < most && isGood; i++) {
                call();
            }
            if (isGood) {
                same("digest()", desk::digest, model::digest);
            }
            seen.merge("big sides left", model.bigLeft, Integer::sum);
        }

        void same(String call, Supplier<Object> got, Supplier<Object> due) {
            calls.add(call);
            Object gotAnswer = answer(got);
            Object dueAnswer = answer(due);
            note(call, dueAnswer);
            if (!gotAnswer.equals(dueAnswer)) {
                wrong++;
                isGood = false;
                System.out.println("after " + calls + " answered " + gotAnswer + ", due is " + dueAnswer);
            }
        }

        void note(String call, Object due) {
            String what = call.substring(0, call.indexOf('('));
            String text = due.toString();
            if (due instanceof String && text.length() > 1) {
                text = text.startsWith("throws") ? "throws" : what.equals("why") ? text.substring(0, 4) : "text";
            } else if (due instanceof Long) {
                text = "long";
            } else if (what.equals("ways") && (Integer) due > 1) {
                text = "many";
            } else if (what.equals("step") && text.equals("0") && model.now.state == 4) {
                text = "0 GREAT";
            }
            seen.merge(what + " " + text, 1, Integer::sum);
        }

        Object answer(Supplier<Object> call) {
            try {
                return call.get();
            } catch (RuntimeException e) {
                return "throws." + e.getClass().getSimpleName();
            }
        }

        int leaf() {
            int few = kind % 4 == 0 ? 2 : kind % 4 == 1 ? 3 : 6;
            return below(5) == 0 ? below(2) : 2 + below(few);
        }

        /** Makes a term of about that size, sign by sign; its number. */
        int built(int size) {
            if (size <= 1) {
                return leaf();
            }
            int sign = kind == 2 || kind == 3 || below(3) == 0 ? 4 : below(5) == 0 ? 2 : 3;
            int ahead = sign == 2 ? size - 1 : 1 + below(size - 1);
            int first = built(ahead);
            int second = sign == 2 ? 0 : built(size - 1 - ahead);
            return made(sign, first, second);
        }

        /** g(.,g(.,g(.,.))) of small terms: two such ones are seldom unlike at once. */
        int listed(int entries, int size) {
            int entry = built(1 + below(size));
            return entries <= 1 ? entry : made(kind == 3 ? 4 : 3, entry, listed(entries - 1, size));
        }

        int made(int sign, int first, int second) {
            same("term(" + sign + "," + first + "," + second + ")", () -> desk.term(sign, first, second),
                    () -> model.term(sign, first, second));
            int number = model.numberOf(sign, first, second);
            return number < 0 ? leaf() : number;
        }

        int aTerm() {
            int count = model.terms.size();
            if (count < 42 && below(kind == 4 ? 3 : 12) == 0) {
                return kind >= 4 ? listed(2 + below(4), 1 + below(3)) : built(1 + below(12));
            }
            int dice = below(40);
            if (dice == 0) {
                return below(5) == 0 ? far() : below(2) == 0 ? -1 - below(3) : count + below(3);
            }
            return dice < 22 && count > 8 ? count - 1 - below(Math.min(count - 8, 8)) : below(count);
        }

        int far() {
            int[] all = {Integer.MIN_VALUE, Integer.MAX_VALUE, -9, 1 << 16};
            return all[below(4)];
        }

        int aName() {
            return below(90) == 0 ? far() : below(30) == 0 ? (below(2) == 0 ? -1 : 6) : below(kind == 1 ? 3 : 6);
        }

        int aSign() {
            if (below(30) == 0) {
                return below(2) == 0 ? below(2) : 5;
            }
            int dice = below(10);
            if (kind == 2 || kind == 3 || kind == 5) {
                return dice < 7 ? 4 : 2 + below(3);
            }
            return dice < 4 ? 3 : 2 + below(3);
        }

        /** Terms that grow by each name that is filled: g(y,g(z,..)) with g(g(x,x),g(g(y,y),..)). */
        int doubled(boolean isPairs, int from, int entries) {
            int name = 2 + (from + (isPairs ? 0 : 1)) % 6;
            int entry = !isPairs ? name : below(12) == 0 ? built(1 + below(4)) : made(3, name, below(8) == 0 ? leaf() : name);
            return entries <= 1 ? entry : made(kind == 6 && below(3) == 0 ? 4 : 3, entry, doubled(isPairs, from + 1, entries - 1));
        }

        void askBoth(int a, int b) {
            String both = "(" + a + "," + b + ")";
            same("unify" + both, () -> desk.unify(a, b), () -> model.unify(a, b));
            same("why" + both, () -> desk.why(a, b), () -> model.why(a, b));
            same("ways" + both, () -> desk.ways(a, b), () -> model.ways(a, b));
            same("way(" + a + "," + b + ",0)", () -> desk.way(a, b, 0), () -> model.way(a, b, 0));
            same("way(" + a + "," + b + ",1)", () -> desk.way(a, b, 1), () -> model.way(a, b, 1));
            same("cases(" + a + "," + b + ",true)", () -> desk.cases(a, b, true), () -> model.cases(a, b, true));
            same("isTurned" + both, () -> desk.isTurned(a, b), () -> model.isTurned(a, b));
            same("isEndless" + both, () -> desk.isEndless(a, b), () -> model.isEndless(a, b));
        }

        void equalBoth(int a, int b) {
            same("equal(" + a + "," + b + ")", () -> desk.equal(a, b), () -> model.equal(a, b));
        }

        void solveAll(int times) {
            for (int i = 0; i < times; i++) {
                int most = 5 + below(16);
                same("steps(" + most + ")", () -> desk.steps(most), () -> model.steps(most));
            }
            for (int i = 0; i < model.now.unlike.size(); i++) {
                int k = i;
                same("stays(" + k + ")", () -> desk.stays(k), () -> model.stays(k));
            }
            int name = below(6);
            same("solved(" + name + ")", () -> desk.solved(name), () -> model.solved(name));
        }

        void doubledScene() {
            int from = below(6);
            int entries = 2 + below(5);
            int left = doubled(false, from, entries);
            int right = doubled(true, from, entries);
            askBoth(left, right);
            same("clear()", desk::clear, model::clear);
            equalBoth(left, right);
            solveAll(3);
        }

        void solvedScene() {
            same("clear()", desk::clear, model::clear);
            int pairs = below(4);
            for (int i = 0; i < pairs; i++) {
                int a = below(3) == 0 ? listed(2 + below(3), 4) : built(1 + below(8));
                int b = below(3) == 0 ? listed(2 + below(3), 4) : aTerm();
                same("unlike(" + a + "," + b + ")", () -> desk.unlike(a, b), () -> model.unlike(a, b));
            }
            int equations = 1 + below(2);
            for (int i = 0; i < equations; i++) {
                int entries = 1 + below(4);
                equalBoth(listed(entries, 1), listed(entries, 1 + below(5)));
            }
            solveAll(2);
        }

        /** A name is filled with much, and stands twice where another one is put. */
        void grownScene() {
            same("clear()", desk::clear, model::clear);
            int x = 2 + below(3);
            int z = 5 + below(2);
            int twice = made(3, x, below(3) == 0 ? leaf() : x);
            int left = made(3, z, below(3) == 0 ? leaf() : z);
            int right = made(3, twice, leaf());
            int much = built(10 + below(12));
            equalBoth(x, much);
            same("unlike(" + left + "," + right + ")", () -> desk.unlike(left, right), () -> model.unlike(left, right));
            same("unlike(" + twice + "," + much + ")", () -> desk.unlike(twice, much), () -> model.unlike(twice, much));
            same("unlike(" + x + "," + much + ")", () -> desk.unlike(x, much), () -> model.unlike(x, much));
            solveAll(1);
        }

        /** Pairs with much in one part, and names in the others that are put for each other. */
        void besideScene() {
            same("clear()", desk::clear, model::clear);
            int three = made(3, below(2), below(4) == 0 ? 3 : below(2));
            int seven = made(3, three, three);
            int much = made(3, made(3, seven, below(3) == 0 ? three : seven), seven);
            equalBoth(2, much);
            int twice = made(3, 2, below(4) == 0 ? leaf() : 2);
            for (int i = 0; i < 4; i++) {
                int left = made(3, beside(), made(3, beside(), beside()));
                int right = made(3, below(2) == 0 ? twice : beside(), made(3, beside(), below(2) == 0 ? twice : beside()));
                int one = below(2) == 0 ? left : right;
                int other = one == left ? right : left;
                same("unlike(" + one + "," + other + ")", () -> desk.unlike(one, other), () -> model.unlike(one, other));
            }
            solveAll(1);
        }

        /** A name, or what has it, that the row leaves as it is. */
        int beside() {
            int name = 5 + below(3);
            int dice = below(9);
            return dice < 6 ? name : dice < 7 ? below(2) : dice < 8 ? made(2, name, 0) : made(3, name, 5 + below(3));
        }

        /** Many equations of like shape, so that there are steps without end in sight. */
        void longScene() {
            same("clear()", desk::clear, model::clear);
            for (int i = 0; i < 10; i++) {
                int sign = 2 + below(3);
                equalBoth(made(sign, leaf(), leaf()), made(sign, leaf(), leaf()));
            }
            same("steps(20)", () -> desk.steps(20), () -> model.steps(20));
            solveAll(2);
        }

        void turnedScene() {
            int shape = 3 + below(5);
            int a = turned(shape);
            int b = turned(below(4) == 0 ? 3 + below(5) : shape);
            askBoth(a, b);
            if (model.terms.size() < 40) {
                patternScene(below(2) == 0 ? a : b);
            }
        }

        /** A pattern that fits the term by turning, or nearly so. */
        void patternScene(int number) {
            Map<String, Integer> names = new TreeMap<>();
            int pattern = pattern(model.terms.get(number), names);
            same("cases(" + pattern + "," + number + ",true)", () -> desk.cases(pattern, number, true),
                    () -> model.cases(pattern, number, true));
            same("cases(" + number + "," + pattern + ",false)", () -> desk.cases(number, pattern, false),
                    () -> model.cases(number, pattern, false));
            same("match(" + pattern + "," + number + ")", () -> desk.match(pattern, number),
                    () -> model.match(pattern, number));
            same("ways(" + pattern + "," + number + ")", () -> desk.ways(pattern, number),
                    () -> model.ways(pattern, number));
        }

        int pattern(Term term, Map<String, Integer> names) {
            if (names.containsKey(term.turnedText()) || below(4) == 0 && names.size() < 6) {
                names.putIfAbsent(term.turnedText(), 2 + names.size());
                return below(20) == 0 ? leaf() : names.get(term.turnedText());
            }
            if (term.parts().isEmpty()) {
                return model.terms.indexOf(term);
            }
            boolean isTurned = term.head() == 'c' && below(3) == 0;
            int first = pattern(term.parts().get(isTurned ? 1 : 0), names);
            int second = term.head() == 'f' ? 0 : pattern(term.parts().get(isTurned ? 0 : 1), names);
            return made("abfgc".indexOf(term.head()), first, second);
        }

        /** Of c and a few leaves. */
        int turned(int leaves) {
            if (leaves <= 1) {
                return below(6) == 0 ? made(2, leaf(), 0) : leaf();
            }
            int ahead = 1 + below(leaves - 1);
            return made(below(9) == 0 ? 3 : 4, turned(ahead), turned(leaves - ahead));
        }

        void call() {
            if (model.terms.size() < 36 && below(8) == 0) {
                if (kind == 5 || kind == 6) {
                    doubledScene();
                } else if (kind == 2 || kind == 3) {
                    turnedScene();
                } else if (below(4) == 0) {
                    besideScene();
                } else if (below(3) == 0) {
                    grownScene();
                } else if (below(4) == 0) {
                    longScene();
                } else {
                    solvedScene();
                }
                return;
            }
            int dice = below(100);
            if (model.terms.size() < 14 + kind && dice < 40 || dice < 10) {
                make();
            } else if (dice < 40) {
                two();
            } else if (dice < 62) {
                equations();
            } else if (dice < 74) {
                fills();
            } else if (dice < 86) {
                shelf();
            } else {
                rest();
            }
        }

        void make() {
            int a = aTerm();
            int b = aTerm();
            int name = aName();
            switch (below(6)) {
                case 0:
                    same("put(" + a + "," + name + "," + b + ")", () -> desk.put(a, name, b), () -> model.put(a, name, b));
                    break;
                default:
                    int sign = aSign();
                    same("term(" + sign + "," + a + "," + b + ")", () -> desk.term(sign, a, b), () -> model.term(sign, a, b));
            }
        }

        void two() {
            int a = aTerm();
            int b = aTerm();
            String both = "(" + a + "," + b + ")";
            switch (below(9)) {
                case 0:
                    same("unify" + both, () -> desk.unify(a, b), () -> model.unify(a, b));
                    break;
                case 1:
                    same("why" + both, () -> desk.why(a, b), () -> model.why(a, b));
                    break;
                case 2:
                    same("match" + both, () -> desk.match(a, b), () -> model.match(a, b));
                    break;
                case 3:
                    boolean isTurned = below(2) == 0;
                    same("cases(" + a + "," + b + "," + isTurned + ")", () -> desk.cases(a, b, isTurned),
                            () -> model.cases(a, b, isTurned));
                    break;
                case 4:
                    same("isTurned" + both, () -> desk.isTurned(a, b), () -> model.isTurned(a, b));
                    break;
                case 5:
                    same("isEndless" + both, () -> desk.isEndless(a, b), () -> model.isEndless(a, b));
                    break;
                case 6:
                    same("ways" + both, () -> desk.ways(a, b), () -> model.ways(a, b));
                    break;
                case 7:
                    int nth = below(20) == 0 ? far() : below(4) - (below(9) == 0 ? 1 : 0);
                    same("way(" + a + "," + b + "," + nth + ")", () -> desk.way(a, b, nth), () -> model.way(a, b, nth));
                    break;
                default:
                    if (model.terms.size() < 40 || below(4) == 0) {
                        same("common" + both, () -> desk.common(a, b), () -> model.common(a, b));
                    }
            }
        }

        void equations() {
            int a = aTerm();
            int b = aTerm();
            String both = "(" + a + "," + b + ")";
            int dice = below(kind == 6 ? 20 : 24);
            if (dice < 8) {
                same("equal" + both, () -> desk.equal(a, b), () -> model.equal(a, b));
            } else if (dice < 10) {
                same("unlike" + both, () -> desk.unlike(a, b), () -> model.unlike(a, b));
            } else if (dice < 13) {
                same("step()", desk::step, model::step);
            } else if (dice < 16) {
                int most = below(9) == 0 ? below(2) * 21 : below(2) == 0 ? 20 : 1 + below(20);
                same("steps(" + most + ")", () -> desk.steps(most), () -> model.steps(most));
            } else if (dice < 18) {
                int k = below(40) == 0 ? far() : below(model.now.row.size() + 2) - (below(9) == 0 ? 1 : 0);
                same("equation(" + k + ")", () -> desk.equation(k), () -> model.equation(k));
            } else if (dice < 19) {
                int name = aName();
                same("solved(" + name + ")", () -> desk.solved(name), () -> model.solved(name));
            } else if (dice < 22) {
                int k = below(40) == 0 ? far() : below(model.now.unlike.size() + 1) - (below(9) == 0 ? 1 : 0);
                same("stays(" + k + ")", () -> desk.stays(k), () -> model.stays(k));
            } else if (below(3) == 0 || model.now.state > 1) {
                same("clear()", desk::clear, model::clear);
            }
        }

        void fills() {
            int a = aTerm();
            int name = aName();
            switch (below(8)) {
                case 0:
                    same("unfill(" + name + ")", () -> desk.unfill(name), () -> model.unfill(name));
                    break;
                case 1:
                    same("fills()", desk::fills, model::fills);
                    break;
                case 2:
                    same("once(" + a + ")", () -> desk.once(a), () -> model.once(a));
                    break;
                case 3:
                    same("deep(" + a + ")", () -> desk.deep(a), () -> model.deep(a));
                    break;
                case 4:
                    same("rings()", desk::rings, model::rings);
                    break;
                default:
                    same("fill(" + name + "," + a + ")", () -> desk.fill(name, a), () -> model.fill(name, a));
            }
        }

        void shelf() {
            int a = aTerm();
            int place = below(40) == 0 ? far() : below(model.now.shelf.size() + 1) - (below(9) == 0 ? 1 : 0);
            switch (below(9)) {
                case 0:
                    same("lift(" + place + ")", () -> desk.lift(place), () -> model.lift(place));
                    break;
                case 1:
                    same("shelf(" + place + ")", () -> desk.shelf(place), () -> model.shelf(place));
                    break;
                case 2:
                    same("commonOfAll()", desk::commonOfAll, model::commonOfAll);
                    break;
                case 3:
                case 4:
                case 5:
                    int what = below(20) == 0 ? (below(2) == 0 ? -1 : 5) : below(5);
                    same("ask(" + a + "," + what + ")", () -> desk.ask(a, what), () -> model.ask(a, what));
                    break;
                default:
                    same("lay(" + a + ")", () -> desk.lay(a), () -> model.lay(a));
            }
        }

        void rest() {
            int a = aTerm();
            switch (below(10)) {
                case 0:
                    same("text(" + a + ")", () -> desk.text(a), () -> model.text(a));
                    break;
                case 1:
                    int asked = below(20) == 0 ? (below(2) == 0 ? -1 : 7) : below(7);
                    same("ofTerm(" + a + "," + asked + ")", () -> desk.ofTerm(a, asked), () -> model.ofTerm(a, asked));
                    break;
                case 2:
                    int place = below(20) == 0 ? far() : below(28) - 1;
                    same("part(" + a + "," + place + ")", () -> desk.part(a, place), () -> model.part(a, place));
                    break;
                case 3:
                case 4:
                case 5:
                    same("undo()", desk::undo, model::undo);
                    break;
                case 6:
                    if (below(2) == 0) {
                        same("blank()", desk::blank, model::blank);
                    } else {
                        same("knock()", desk::knock, model::knock);
                    }
                    break;
                case 7:
                    int what = below(20) == 0 ? (below(2) == 0 ? -1 : 9) : below(9);
                    same("house(" + what + ")", () -> desk.house(what), () -> model.house(what));
                    break;
                case 8:
                    same("isSound()", desk::isSound, model::isSound);
                    break;
                default:
                    same("digest()", desk::digest, model::digest);
            }
        }
    }

    // ---- the model: terms are trees, told apart by their text

    private record Term(char head, List<Term> parts) {
        static Term of(char head, Term... parts) {
            return new Term(head, List.of(parts));
        }

        boolean isName() {
            return "xyzuvwXYZUVW".indexOf(head) >= 0;
        }

        String text() {
            if (parts.isEmpty()) {
                return "" + head;
            }
            List<String> texts = new ArrayList<>();
            for (Term part : parts) {
                texts.add(part.text());
            }
            return head + "(" + String.join(",", texts) + ")";
        }

        /** The text with the parts of each c in rising order. */
        String turnedText() {
            if (parts.isEmpty()) {
                return "" + head;
            }
            List<String> texts = new ArrayList<>();
            for (Term part : parts) {
                texts.add(part.turnedText());
            }
            if (head == 'c') {
                Collections.sort(texts);
            }
            return head + "(" + String.join(",", texts) + ")";
        }

        int size() {
            int letters = 0;
            for (char sign : text().toCharArray()) {
                if (Character.isLetter(sign)) {
                    letters++;
                }
            }
            return letters;
        }

        List<Term> inOrder() {
            List<Term> all = new ArrayList<>();
            all.add(this);
            for (Term part : parts) {
                all.addAll(part.inOrder());
            }
            return all;
        }

        boolean has(char name) {
            return text().indexOf(name) >= 0;
        }

        Term filled(Map<Character, Term> by) {
            if (by.containsKey(head)) {
                return by.get(head);
            }
            List<Term> fresh = new ArrayList<>();
            for (Term part : parts) {
                fresh.add(part.filled(by));
            }
            return new Term(head, fresh);
        }

        Term apart() {
            List<Term> fresh = new ArrayList<>();
            for (Term part : parts) {
                fresh.add(part.apart());
            }
            return new Term(isName() ? Character.toUpperCase(head) : head, fresh);
        }
    }

    private record Equation(Term left, Term right) {
        String text() {
            return left.text() + "=" + right.text();
        }
    }

    /** What undo brings back; never changed but made anew. */
    private record State(TreeMap<Integer, Term> fills, List<Equation> row, int state, List<Equation> unlike, List<Term> shelf) {
        State copy() {
            return new State(new TreeMap<>(fills), new ArrayList<>(row), state, new ArrayList<>(unlike), new ArrayList<>(shelf));
        }

        State with(int fresh) {
            return new State(fills, row, fresh, unlike, shelf);
        }
    }

    private record Ended(List<Equation> row, int state, int rule, Equation at) {
    }

    private static final class TooMany extends RuntimeException {
        private static final long serialVersionUID = 1;
    }

    private static final class Model {
        private static final String NAMES = "xyzuvw";
        private static final String SIGNS = "abfgc";
        final List<Term> terms = new ArrayList<>();
        State now = new State(new TreeMap<>(), new ArrayList<>(), 0, new ArrayList<>(), new ArrayList<>());
        private final List<State> past = new ArrayList<>();
        private int blanks;
        private int knocks;
        /** How often RULE 6 left a side of over 40 letters as it was. */
        int bigLeft;

        Model() {
            for (char head : "abxyzuvw".toCharArray()) {
                terms.add(Term.of(head));
            }
        }

        // ---- what is looked at first

        private Term term(int number) {
            if (number < 0 || number >= terms.size()) {
                throw new IndexOutOfBoundsException();
            }
            return terms.get(number);
        }

        private char name(int name) {
            if (name < 0 || name > 5) {
                throw new IllegalArgumentException();
            }
            return NAMES.charAt(name);
        }

        private void question(int what, int most) {
            if (what < 0 || what > most) {
                throw new IllegalArgumentException();
            }
        }

        private void mark() {
            past.add(now.copy());
            if (past.size() > 8) {
                past.remove(0);
            }
        }

        // ---- terms

        int keep(Term term) {
            if (term == null || term.size() > 25) {
                return -9;
            }
            List<Term> all = new ArrayList<>(terms);
            keepInto(term, all);
            if (all.size() > 48) {
                return -9;
            }
            terms.clear();
            terms.addAll(all);
            return terms.indexOf(term);
        }

        private void keepInto(Term term, List<Term> all) {
            for (Term part : term.parts()) {
                keepInto(part, all);
            }
            if (!all.contains(term)) {
                all.add(term);
            }
        }

        int term(int sign, int left, int right) {
            if (sign < 2 || sign > 4) {
                throw new IllegalArgumentException();
            }
            Term first = term(left);
            return keep(sign == 2 ? Term.of('f', first) : Term.of(SIGNS.charAt(sign), first, term(right)));
        }

        /** The number of what is kept already; -9 otherwise. */
        int numberOf(int sign, int left, int right) {
            Term first = term(left);
            int number = terms.indexOf(sign == 2 ? Term.of('f', first) : Term.of(SIGNS.charAt(sign), first, term(right)));
            return number < 0 ? -9 : number;
        }

        int put(int term, int name, int by) {
            Term into = term(term);
            Term what = term(by);
            return keep(into.filled(Map.of(name(name), what)));
        }

        String text(int term) {
            return term(term).text();
        }

        int ofTerm(int number, int what) {
            Term term = term(number);
            question(what, 6);
            switch (what) {
                case 0: return SIGNS.indexOf(term.head());
                case 1: return term.size();
                case 2: return new HashSet<>(term.inOrder()).size();
                case 3: return height(term);
                case 4:
                    int set = 0;
                    for (int name = 0; name < 6; name++) {
                        set += term.has(NAMES.charAt(name)) ? 1 << name : 0;
                    }
                    return set;
                default:
                    return term.parts().size() > what - 5 ? terms.indexOf(term.parts().get(what - 5)) : -1;
            }
        }

        private int height(Term term) {
            int most = 0;
            for (Term part : term.parts()) {
                most = Math.max(most, height(part));
            }
            return 1 + most;
        }

        int part(int number, int place) {
            List<Term> all = term(number).inOrder();
            if (place < 0 || place >= all.size()) {
                throw new IndexOutOfBoundsException();
            }
            return terms.indexOf(all.get(place));
        }

        // ---- fills

        int fill(int name, int number) {
            name(name);
            Term term = term(number);
            mark();
            now.fills().put(name, term);
            return now.fills().size();
        }

        int unfill(int name) {
            name(name);
            if (!now.fills().containsKey(name)) {
                throw new NoSuchElementException();
            }
            mark();
            now.fills().remove(name);
            return now.fills().size();
        }

        private Map<Character, Term> filling() {
            Map<Character, Term> by = new LinkedHashMap<>();
            now.fills().forEach((name, term) -> by.put(NAMES.charAt(name), term));
            return by;
        }

        private String text(Map<Character, Term> by, boolean isOwnTold) {
            List<String> texts = new ArrayList<>();
            for (char name : NAMES.toCharArray()) {
                if (by.containsKey(name) && (isOwnTold || by.get(name).head() != name)) {
                    texts.add(name + "=" + by.get(name).text());
                }
            }
            return String.join(";", texts);
        }

        String fills() {
            return text(filling(), false);
        }

        int once(int number) {
            return keep(term(number).filled(filling()));
        }

        int deep(int number) {
            Term term = term(number);
            if (!rings().equals("-")) {
                throw new IllegalStateException();
            }
            Map<Character, Term> by = filling();
            while (by.keySet().stream().anyMatch(term::has)) {
                if (new HashSet<>(term.inOrder()).size() > 5000 || term.inOrder().size() > 20000) {
                    return -9;
                }
                term = term.filled(by);
            }
            return keep(term);
        }

        String rings() {
            List<String> all = new ArrayList<>();
            for (char name : NAMES.toCharArray()) {
                if (comes(name, name, 6)) {
                    all.add("" + name);
                }
            }
            return all.isEmpty() ? "-" : String.join(" ", all);
        }

        private boolean comes(char from, char to, int most) {
            Term fill = filling().get(from);
            if (fill == null || most == 0) {
                return false;
            }
            if (fill.has(to)) {
                return true;
            }
            for (char name : NAMES.toCharArray()) {
                if (fill.has(name) && comes(name, to, most - 1)) {
                    return true;
                }
            }
            return false;
        }

        // ---- equations

        private boolean isElsewhere(List<Equation> row, int k, char name) {
            for (int i = 0; i < row.size(); i++) {
                if (i != k && (row.get(i).left().has(name) || row.get(i).right().has(name))) {
                    return true;
                }
            }
            return false;
        }

        private int rule(List<Equation> row, int k, boolean isTurning) {
            Term left = row.get(k).left();
            Term right = row.get(k).right();
            if (left.equals(right) || isTurning && left.turnedText().equals(right.turnedText())) {
                return 1;
            }
            if (!left.isName() && !right.isName() && left.head() != right.head()) {
                return 2;
            }
            if (!left.isName() && !right.isName()) {
                return 3;
            }
            if (!left.isName()) {
                return 4;
            }
            if (right.has(left.head())) {
                return 5;
            }
            return isElsewhere(row, k, left.head()) ? 6 : 0;
        }

        private int[] next(List<Equation> row, boolean isTurning) {
            for (int k = 0; k < row.size(); k++) {
                if (rule(row, k, isTurning) != 0) {
                    return new int[] {k, rule(row, k, isTurning)};
                }
            }
            return null;
        }

        /** The row after the rule; null if it is GREAT. */
        private List<Equation> done(List<Equation> row, int k, int rule, boolean isCrossed) {
            List<Equation> fresh = new ArrayList<>(row);
            Term left = row.get(k).left();
            Term right = row.get(k).right();
            if (rule == 1) {
                fresh.remove(k);
            } else if (rule == 3) {
                fresh.remove(k);
                int parts = left.parts().size();
                for (int i = 0; i < parts; i++) {
                    int across = isCrossed ? parts - 1 - i : i;
                    fresh.add(k + i, new Equation(left.parts().get(i), right.parts().get(across)));
                }
            } else if (rule == 4) {
                fresh.set(k, new Equation(right, left));
            } else if (rule == 6) {
                Map<Character, Term> by = Map.of(left.head(), right);
                for (int i = 0; i < row.size(); i++) {
                    if (i != k) {
                        fresh.set(i, new Equation(row.get(i).left().filled(by), row.get(i).right().filled(by)));
                        if (isGrownTooBig(row.get(i).left(), left.head(), by) || isGrownTooBig(row.get(i).right(), left.head(), by)) {
                            return null;
                        }
                    }
                }
            }
            return fresh;
        }

        private boolean isGrownTooBig(Term side, char name, Map<Character, Term> by) {
            if (!side.has(name) && side.size() > 40) {
                bigLeft++;
            }
            return side.has(name) && side.filled(by).size() > 40;
        }

        private Ended solve(Term one, Term other) {
            List<Equation> row = List.of(new Equation(one, other));
            while (true) {
                int[] next = next(row, false);
                if (next == null) {
                    return new Ended(row, 1, 0, null);
                }
                if (next[1] == 2 || next[1] == 5) {
                    return new Ended(row, next[1] == 2 ? 2 : 3, next[1], row.get(next[0]));
                }
                List<Equation> fresh = done(row, next[0], next[1], false);
                if (fresh == null) {
                    return new Ended(row, 4, 0, null);
                }
                row = fresh;
            }
        }

        private Map<Character, Term> filling(List<Equation> row) {
            Map<Character, Term> by = new LinkedHashMap<>();
            row.forEach(each -> by.put(each.left().head(), each.right()));
            return by;
        }

        int equal(int term, int other) {
            Equation fresh = new Equation(term(term), term(other));
            if (now.row().size() >= 10) {
                throw new IllegalStateException();
            }
            mark();
            now.row().add(fresh);
            now = now.with(now.state() == 1 ? 0 : now.state());
            return now.row().size();
        }

        int unlike(int term, int other) {
            Equation fresh = new Equation(term(term), term(other));
            if (now.unlike().size() == 6) {
                throw new IllegalStateException();
            }
            mark();
            now.unlike().add(fresh);
            return now.unlike().size();
        }

        int step() {
            mark();
            return oneStep();
        }

        private int oneStep() {
            if (now.state() != 0) {
                return 0;
            }
            int[] next = next(now.row(), false);
            if (next == null) {
                now = now.with(1);
                return 0;
            }
            List<Equation> fresh = done(now.row(), next[0], next[1], false);
            if (fresh == null) {
                now = now.with(4);
                return 0;
            }
            int state = next[1] == 2 ? 2 : next[1] == 5 ? 3 : 0;
            now = new State(now.fills(), new ArrayList<>(fresh), state, now.unlike(), now.shelf());
            return next[1];
        }

        int steps(int most) {
            if (most < 1 || most > 20) {
                throw new IllegalArgumentException();
            }
            mark();
            int count = 0;
            while (count < most && oneStep() != 0) {
                count++;
            }
            return count;
        }

        int clear() {
            mark();
            int were = now.row().size();
            now = new State(now.fills(), new ArrayList<>(), 0, new ArrayList<>(), now.shelf());
            return were;
        }

        String equation(int k) {
            if (k < 0 || k >= now.row().size()) {
                throw new IndexOutOfBoundsException();
            }
            return now.row().get(k).text();
        }

        String solved(int name) {
            char letter = name(name);
            if (now.state() != 1) {
                throw new IllegalStateException();
            }
            return filling(now.row()).getOrDefault(letter, Term.of(letter)).text();
        }

        int stays(int k) {
            if (k < 0 || k >= now.unlike().size()) {
                throw new IndexOutOfBoundsException();
            }
            if (now.state() != 1) {
                throw new IllegalStateException();
            }
            Term one = now.unlike().get(k).left().filled(filling(now.row()));
            Term other = now.unlike().get(k).right().filled(filling(now.row()));
            if (one.equals(other)) {
                return 2;
            }
            int state = solve(one, other).state();
            return state == 4 ? -9 : state == 1 ? 0 : 1;
        }

        // ---- two terms

        String unify(int term, int other) {
            Ended ended = solve(term(term), term(other));
            return ended.state() == 1 ? text(filling(ended.row()), false) : ended.state() == 4 ? "!" : "-";
        }

        String why(int term, int other) {
            Ended ended = solve(term(term), term(other));
            if (ended.state() == 2) {
                return "clash " + ended.at().left().head() + " " + ended.at().right().head();
            }
            return ended.state() == 3 ? "ring " + ended.at().text() : "-";
        }

        private boolean fits(Term pattern, Term target, Map<Character, Term> by) {
            if (pattern.isName()) {
                by.putIfAbsent(pattern.head(), target);
                return by.get(pattern.head()).equals(target);
            }
            if (pattern.head() != target.head()) {
                return false;
            }
            for (int i = 0; i < pattern.parts().size(); i++) {
                if (!fits(pattern.parts().get(i), target.parts().get(i), by)) {
                    return false;
                }
            }
            return true;
        }

        String match(int term, int other) {
            Map<Character, Term> by = new LinkedHashMap<>();
            term(other);
            return fits(term(term), term(other), by) ? text(by, true) : "-";
        }

        /** All that names can stand for by turning, as turned texts, going on from those so far. */
        private Set<Map<Character, String>> turnedFits(Term pattern, Term target, Set<Map<Character, String>> soFar) {
            Set<Map<Character, String>> all = new HashSet<>();
            if (soFar.isEmpty() || !pattern.isName() && pattern.head() != target.head()) {
                return all;
            }
            if (pattern.isName()) {
                for (Map<Character, String> each : soFar) {
                    Map<Character, String> fresh = new TreeMap<>(each);
                    fresh.putIfAbsent(pattern.head(), target.turnedText());
                    if (fresh.get(pattern.head()).equals(target.turnedText())) {
                        all.add(fresh);
                    }
                }
                return all;
            }
            int parts = pattern.parts().size();
            for (int way = 0; way < (pattern.head() == 'c' ? 2 : 1); way++) {
                Set<Map<Character, String>> on = soFar;
                for (int i = 0; i < parts; i++) {
                    on = turnedFits(pattern.parts().get(i), target.parts().get(way == 0 ? i : 1 - i), on);
                }
                all.addAll(on);
            }
            return parts == 0 ? soFar : all;
        }

        private boolean isCase(Term pattern, Term target, boolean isTurned) {
            if (isTurned) {
                return !turnedFits(pattern, target, Set.of(Map.of())).isEmpty();
            }
            return fits(pattern, target, new LinkedHashMap<>());
        }

        int cases(int term, int other, boolean isTurned) {
            Term one = term(term);
            Term two = term(other);
            return (isCase(one, two, isTurned) ? 1 : 0) + (isCase(two, one, isTurned) ? 2 : 0);
        }

        boolean isTurned(int term, int other) {
            return term(term).turnedText().equals(term(other).turnedText());
        }

        boolean isEndless(int term, int other) {
            return areEndless(term(term), term(other));
        }

        private boolean areEndless(Term one, Term other) {
            List<Set<Term>> classes = new ArrayList<>();
            for (Term each : one.inOrder()) {
                classes.add(new HashSet<>(Set.of(each)));
            }
            for (Term each : other.inOrder()) {
                classes.add(new HashSet<>(Set.of(each)));
            }
            for (Term each : one.inOrder()) {
                join(classes, each, each);
            }
            join(classes, one, other);
            while (true) {
                Equation found = null;
                for (Set<Term> each : classes) {
                    for (Term a : each) {
                        for (Term b : each) {
                            if (a.isName() || b.isName()) {
                                continue;
                            }
                            if (a.head() != b.head()) {
                                return false;
                            }
                            for (int i = 0; i < a.parts().size(); i++) {
                                if (classOf(classes, a.parts().get(i)) != classOf(classes, b.parts().get(i))) {
                                    found = new Equation(a.parts().get(i), b.parts().get(i));
                                }
                            }
                        }
                    }
                }
                if (found == null) {
                    return true;
                }
                join(classes, found.left(), found.right());
            }
        }

        private Set<Term> classOf(List<Set<Term>> classes, Term term) {
            for (Set<Term> each : classes) {
                if (each.contains(term)) {
                    return each;
                }
            }
            throw new IllegalStateException("the model is wrong");
        }

        private void join(List<Set<Term>> classes, Term one, Term other) {
            Set<Term> all = new HashSet<>();
            for (int i = classes.size() - 1; i >= 0; i--) {
                if (classes.get(i).contains(one) || classes.get(i).contains(other)) {
                    all.addAll(classes.remove(i));
                }
            }
            classes.add(all);
        }

        // ---- turned ways

        private int ends;

        private void walk(List<Equation> row, List<Map<Character, Term>> found) {
            int[] next = next(row, true);
            if (next == null) {
                found.add(filling(row));
            }
            if (next == null || next[1] == 2 || next[1] == 5) {
                ends++;
                if (ends > 24) {
                    throw new TooMany();
                }
                return;
            }
            List<Equation> fresh = done(row, next[0], next[1], false);
            if (fresh == null) {
                throw new TooMany();
            }
            walk(fresh, found);
            if (next[1] == 3 && row.get(next[0]).left().head() == 'c') {
                walk(done(row, next[0], 3, true), found);
            }
        }

        private boolean isCaseOf(List<Term> one, List<Term> above) {
            Set<Map<Character, String>> on = Set.of(Map.of());
            for (int i = 0; i < one.size(); i++) {
                on = turnedFits(above.get(i), one.get(i), on);
            }
            return !on.isEmpty();
        }

        /** The texts of the ways; null if they are too many. */
        private List<String> allWays(Term one, Term other) {
            List<Map<Character, Term>> found = new ArrayList<>();
            ends = 0;
            try {
                walk(List.of(new Equation(one, other)), found);
            } catch (TooMany e) {
                return null;
            }
            List<List<Term>> tuples = new ArrayList<>();
            for (Map<Character, Term> each : found) {
                List<Term> tuple = new ArrayList<>();
                for (char name : NAMES.toCharArray()) {
                    if (one.has(name) || other.has(name)) {
                        tuple.add(Term.of(name).filled(each));
                    }
                }
                tuples.add(tuple);
            }
            List<String> texts = new ArrayList<>();
            for (int i = 0; i < tuples.size(); i++) {
                boolean isIn = true;
                for (int j = 0; j < tuples.size(); j++) {
                    if (i != j && isCaseOf(tuples.get(i), tuples.get(j)) && (!isCaseOf(tuples.get(j), tuples.get(i)) || j < i)) {
                        isIn = false;
                    }
                }
                if (isIn) {
                    texts.add(text(found.get(i), false));
                }
            }
            return texts;
        }

        int ways(int term, int other) {
            Term one = term(term);
            List<String> all = allWays(one, term(other));
            return all == null ? -9 : all.size();
        }

        String way(int term, int other, int nth) {
            Term one = term(term);
            List<String> all = allWays(one, term(other));
            if (all == null) {
                return "!";
            }
            if (nth < 0 || nth >= all.size()) {
                throw new NoSuchElementException();
            }
            return all.get(nth);
        }

        // ---- in common, the shelf

        private Term common(Term one, Term other, Map<Equation, Term> pairs) {
            if (!one.isName() && one.head() == other.head()) {
                List<Term> parts = new ArrayList<>();
                for (int i = 0; i < one.parts().size(); i++) {
                    parts.add(common(one.parts().get(i), other.parts().get(i), pairs));
                }
                return new Term(one.head(), parts);
            }
            Equation pair = new Equation(one, other);
            pairs.putIfAbsent(pair, Term.of((NAMES + "??????????????????????????????").charAt(pairs.size())));
            return pairs.get(pair);
        }

        private Term common(Term one, Term other) {
            if (one == null || other == null) {
                return null;
            }
            Term both = common(one, other, new LinkedHashMap<>());
            return both.has('?') ? null : both;
        }

        int common(int term, int other) {
            Term one = term(term);
            return keep(common(one, term(other)));
        }

        int lay(int number) {
            Term term = term(number);
            if (now.shelf().size() == 10) {
                throw new IllegalStateException();
            }
            mark();
            now.shelf().add(term);
            return now.shelf().size();
        }

        int lift(int place) {
            int number = shelf(place);
            mark();
            now.shelf().remove(place);
            return number;
        }

        int shelf(int place) {
            if (place < 0 || place >= now.shelf().size()) {
                throw new IndexOutOfBoundsException();
            }
            return terms.indexOf(now.shelf().get(place));
        }

        int ask(int number, int what) {
            Term term = term(number);
            question(what, 4);
            int set = 0;
            for (int place = 0; place < now.shelf().size(); place++) {
                Term other = now.shelf().get(place);
                boolean isIn = what == 0 ? solve(term, other.apart()).state() == 1
                        : what == 1 ? isCase(term, other, false)
                        : what == 2 ? isCase(other, term, false)
                        : what == 3 ? isCase(other, term, false) && isCase(term, other, false)
                        : term.turnedText().equals(other.turnedText());
                set += isIn ? 1 << place : 0;
            }
            return set;
        }

        int commonOfAll() {
            if (now.shelf().isEmpty()) {
                throw new NoSuchElementException();
            }
            Term all = now.shelf().get(0);
            if (now.shelf().size() == 1) {
                all = common(all, all);
            }
            for (int place = 1; place < now.shelf().size(); place++) {
                all = common(all, now.shelf().get(place));
            }
            return keep(all);
        }

        // ---- the desk

        int undo() {
            if (past.isEmpty()) {
                throw new IllegalStateException();
            }
            now = past.remove(past.size() - 1);
            return past.size();
        }

        int blank() {
            blanks++;
            return -9;
        }

        int knock() {
            knocks++;
            return knocks;
        }

        int house(int what) {
            question(what, 8);
            return new int[] {terms.size(), now.fills().size(), now.row().size(), now.unlike().size(), now.state(),
                now.shelf().size(), past.size(), blanks, knocks}[what];
        }

        boolean isSound() {
            Term last = terms.get(terms.size() - 1);
            for (int back = 0; back < 4; back++) {
                Term other = terms.get(terms.size() - 1 - back);
                Ended ended = solve(last, other);
                if (ended.state() == 1) {
                    Map<Character, Term> by = filling(ended.row());
                    if (!last.filled(by).equals(other.filled(by)) || !areEndless(last, other)) {
                        return false;
                    }
                }
                Term both = common(last, other);
                if (both != null && (!isCase(both, last, false) || !isCase(both, other, false))) {
                    return false;
                }
            }
            for (int k = 0; k < now.row().size() && now.state() == 1; k++) {
                Term left = now.row().get(k).left();
                if (!left.isName() || now.row().get(k).right().has(left.head()) || isElsewhere(now.row(), k, left.head())) {
                    return false;
                }
            }
            return true;
        }

        long digest() {
            List<Long> all = new ArrayList<>();
            for (int what = 0; what <= 8; what++) {
                all.add((long) house(what));
            }
            for (int number = 0; number < terms.size(); number++) {
                for (int what = 0; what <= 6; what++) {
                    all.add((long) ofTerm(number, what));
                }
            }
            StringBuilder codes = new StringBuilder(fills()).append(rings());
            now.row().forEach(each -> codes.append(each.text()));
            codes.chars().forEach(code -> all.add((long) code));
            for (int k = 0; k < now.unlike().size() && now.state() == 1; k++) {
                all.add((long) stays(k));
            }
            now.shelf().forEach(each -> all.add((long) terms.indexOf(each)));
            for (int what = 0; what <= 4; what++) {
                all.add((long) ask(terms.size() - 1, what));
            }
            all.add(isSound() ? 1L : 0L);
            long sum = 8303;
            for (long each : all) {
                sum = sum * 31 + each;
            }
            return sum;
        }
    }
}
