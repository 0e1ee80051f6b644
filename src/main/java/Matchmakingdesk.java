import java.util.Arrays;
import java.util.NoSuchElementException;

/** A desk at which terms are made alike. What each method does is told by the promise of its name in DOC.md. */
public final class Matchmakingdesk {

    private static final int NONE = -1;
    private static final int REFUSED = -9;

    private static final int SIGN_A = 0;
    private static final int SIGN_B = 1;
    private static final int SIGN_F = 2;
    private static final int SIGN_C = 4;
    private static final int SIGNS = 5;
    private static final String SIGN_LETTERS = "abfgc";

    private static final int NAMES = 6;
    // The NAMES of a second term that are kept apart have numbers of their own, 6 to 11.
    private static final int ALL_NAMES = 12;
    private static final int FIRST_NAME = 2;
    private static final String NAME_LETTERS = "xyzuvw";

    private static final int MOST_TERMS = 48;
    private static final int MOST_SIZE = 25;
    private static final int MOST_SIDE = 40;
    private static final int MOST_EQUATIONS = 10;
    private static final int MOST_UNLIKE = 6;
    private static final int MOST_SHELF = 10;
    private static final int MOST_UNDO = 8;
    private static final int MOST_STEPS = 20;
    private static final int MOST_ROWS = 24;

    // Nodes: the kept terms, then the NAMES apart, then what one call makes for itself.
    private static final int APART_NODES = MOST_TERMS;
    private static final int FREE_NODES = APART_NODES + NAMES;
    private static final int MOST_NODES = 8192;
    private static final int BUCKETS = 256;
    // Sizes stop here, so that no sum of two of them wraps around.
    private static final int HUGE = 1000000;
    // What is looked at part by part has no more than MOST_SIDE letters, or is filled by a row without a ring:
    // then no kept term comes twice on a way down, and so none is deeper.
    private static final int DEEPEST = 48;
    private static final int FAR_BOUND = 1000000;
    // A row holds six solved equations, the ones not begun, and what waits on one way down: never 256.
    private static final int MOST_ROW = 256;
    private static final int MOST_CODES = 2 * MOST_ROW * MOST_SIDE;
    private static final int MOST_GOALS = 1024;
    private static final int STRAIGHT = 0;
    private static final int CROSSED = 1;
    private static final int MOST_CLASSING = 128;

    private static final int OPEN = 0;
    private static final int SOLVED = 1;
    private static final int CLASH = 2;
    private static final int RING = 3;
    private static final int GREAT = 4;

    private static final long DIGEST_START = 8303;

    private final Terms terms = new Terms();
    private final Filling filling = new Filling();
    private final Filling apart = new Filling();
    private final Row row = new Row(terms);
    private final Row trial = new Row(terms);
    private final TurnedMatch turnedMatch = new TurnedMatch(terms);
    private final Ways turnedWays = new Ways(terms, turnedMatch);
    private final Commons commons = new Commons(terms);
    private final Endless endless = new Endless(terms);
    private final Desk desk = new Desk();
    private final Past past = new Past();
    private final StringBuilder words = new StringBuilder();
    private int blanks;
    private int knocks;

    /** Promise 1. */
    public Matchmakingdesk() {
        for (int name = 0; name < NAMES; name++) {
            apart.give(name, APART_NODES + name);
        }
    }

    // ---- terms

    /** Promise 2. */
    public int term(int sign, int left, int right) throws IllegalArgumentException, IndexOutOfBoundsException {
        if (sign < SIGN_F || sign > SIGN_C) {
            throw new IllegalArgumentException("no such sign");
        }
        needTerm(left);
        if (sign != SIGN_F) {
            needTerm(right);
        }
        return terms.keep(terms.made(sign, left, right));
    }

    /** Promise 3. */
    public int put(int term, int name, int by) throws IndexOutOfBoundsException, IllegalArgumentException {
        needTerm(term);
        needTerm(by);
        needName(name);
        filling.empty();
        filling.give(name, by);
        return terms.keep(Terms.filled(terms, term, filling, 0));
    }

    /** Promise 4. */
    public String text(int term) throws IndexOutOfBoundsException {
        needTerm(term);
        words.setLength(0);
        terms.write(term, words);
        return words.toString();
    }

    /** Promise 5. */
    public int ofTerm(int term, int what) throws IndexOutOfBoundsException, IllegalArgumentException {
        needTerm(term);
        if (what < 0 || what > 6) {
            throw new IllegalArgumentException("no such question");
        }
        return terms.told(term, what);
    }

    /** Promise 6. */
    public int part(int term, int place) throws IndexOutOfBoundsException {
        needTerm(term);
        if (place < 0 || place >= terms.sizeOf(term)) {
            throw new IndexOutOfBoundsException("no such place");
        }
        return terms.standsAt(term, place);
    }

    // ---- fills

    /** Promise 7. */
    public int fill(int name, int term) throws IllegalArgumentException, IndexOutOfBoundsException {
        needName(name);
        needTerm(term);
        past.remember(desk);
        desk.fillBy[name] = term;
        return desk.countFills();
    }

    /** Promise 8. */
    public int unfill(int name) throws IllegalArgumentException, NoSuchElementException {
        needName(name);
        if (desk.fillBy[name] == NONE) {
            throw new NoSuchElementException("no such fill");
        }
        past.remember(desk);
        desk.fillBy[name] = NONE;
        return desk.countFills();
    }

    /** Promise 9. */
    public String fills() {
        writeFills();
        return words.toString();
    }

    /** Promise 10. */
    public int once(int term) throws IndexOutOfBoundsException {
        needTerm(term);
        desk.readFills(filling);
        return terms.keep(Terms.filled(terms, term, filling, 0));
    }

    /** Promise 11. */
    public int deep(int term) throws IndexOutOfBoundsException, IllegalStateException {
        needTerm(term);
        if (ringNames() != 0) {
            throw new IllegalStateException("a ring of fills");
        }
        fillDeeply();
        return terms.keep(Terms.filled(terms, term, filling, 0));
    }

    /** Promise 12. */
    public String rings() {
        writeRings();
        return words.toString();
    }

    // ---- equations

    /** Promise 13. */
    public int equal(int term, int other) throws IndexOutOfBoundsException, IllegalStateException {
        needTerm(term);
        needTerm(other);
        if (desk.equations >= MOST_EQUATIONS) {
            throw new IllegalStateException("too many equations");
        }
        past.remember(desk);
        desk.addEquation(terms, term, other);
        if (desk.state == SOLVED) {
            desk.state = OPEN;
        }
        return desk.equations;
    }

    /** Promise 14. */
    public int unlike(int term, int other) throws IndexOutOfBoundsException, IllegalStateException {
        needTerm(term);
        needTerm(other);
        if (desk.unlikes >= MOST_UNLIKE) {
            throw new IllegalStateException("too many pairs");
        }
        past.remember(desk);
        desk.addUnlike(term, other);
        return desk.unlikes;
    }

    /** Promise 15. */
    public int step() {
        past.remember(desk);
        loadRow();
        int rule = row.advance();
        desk.store(row, terms);
        return rule;
    }

    /** Promise 16. */
    public int steps(int most) throws IllegalArgumentException {
        if (most < 1 || most > MOST_STEPS) {
            throw new IllegalArgumentException("no such number of steps");
        }
        past.remember(desk);
        loadRow();
        int done = 0;
        while (done < most && row.advance() != 0) {
            done++;
        }
        desk.store(row, terms);
        return done;
    }

    /** Promise 17. */
    public int clear() {
        past.remember(desk);
        int were = desk.equations;
        desk.dropEquations();
        return were;
    }

    /** Promise 18. */
    public String equation(int k) throws IndexOutOfBoundsException {
        if (k < 0 || k >= desk.equations) {
            throw new IndexOutOfBoundsException("no such equation");
        }
        loadRow();
        words.setLength(0);
        row.write(k, words);
        return words.toString();
    }

    /** Promise 19. */
    public String solved(int name) throws IllegalArgumentException, IllegalStateException {
        needName(name);
        needSolved();
        loadRow();
        row.readFilling(filling);
        words.setLength(0);
        terms.write(filling.given(name), words);
        return words.toString();
    }

    /** Promise 20. */
    public int stays(int k) throws IndexOutOfBoundsException, IllegalStateException {
        if (k < 0 || k >= desk.unlikes) {
            throw new IndexOutOfBoundsException("no such pair");
        }
        needSolved();
        return stayed(k);
    }

    // ---- two terms

    /** Promise 21. */
    public String unify(int term, int other) throws IndexOutOfBoundsException {
        needTerm(term);
        needTerm(other);
        int state = tryAlike(term, other);
        if (state == GREAT) {
            return "!";
        }
        if (state != SOLVED) {
            return "-";
        }
        trial.readFilling(filling);
        words.setLength(0);
        writeFilling(filling, false);
        return words.toString();
    }

    /** Promise 22. */
    public String why(int term, int other) throws IndexOutOfBoundsException {
        needTerm(term);
        needTerm(other);
        int state = tryAlike(term, other);
        words.setLength(0);
        if (state == CLASH) {
            words.append("clash ");
            words.append(terms.letterOf(trial.left(trial.place)));
            words.append(' ');
            words.append(terms.letterOf(trial.right(trial.place)));
        } else if (state == RING) {
            words.append("ring ");
            trial.write(trial.place, words);
        } else {
            words.append('-');
        }
        return words.toString();
    }

    /** Promise 23. */
    public String match(int term, int other) throws IndexOutOfBoundsException {
        needTerm(term);
        needTerm(other);
        filling.empty();
        if (!Terms.fits(terms, filling, term, other, 0)) {
            return "-";
        }
        words.setLength(0);
        writeFilling(filling, true);
        return words.toString();
    }

    /** Promise 24. */
    public int cases(int term, int other, boolean isTurned) throws IndexOutOfBoundsException {
        needTerm(term);
        needTerm(other);
        int told = 0;
        if (isCase(term, other, isTurned)) {
            told += 1;
        }
        if (isCase(other, term, isTurned)) {
            told += 2;
        }
        return told;
    }

    /** Promise 25. */
    public boolean isTurned(int term, int other) throws IndexOutOfBoundsException {
        needTerm(term);
        needTerm(other);
        return Terms.isAlike(terms, null, term, other, 0);
    }

    /** Promise 26. */
    public boolean isEndless(int term, int other) throws IndexOutOfBoundsException {
        needTerm(term);
        needTerm(other);
        return endless.isPossible(term, other);
    }

    /** Promise 27. */
    public int ways(int term, int other) throws IndexOutOfBoundsException {
        needTerm(term);
        needTerm(other);
        terms.forget();
        turnedWays.find(term, other);
        turnedWays.leaveOut();
        return turnedWays.isTooMany ? REFUSED : turnedWays.foundCount;
    }

    /** Promise 28. */
    public String way(int term, int other, int nth) throws IndexOutOfBoundsException, NoSuchElementException {
        needTerm(term);
        needTerm(other);
        terms.forget();
        turnedWays.find(term, other);
        turnedWays.leaveOut();
        if (turnedWays.isTooMany) {
            return "!";
        }
        if (nth < 0 || nth >= turnedWays.foundCount) {
            throw new NoSuchElementException("no such way");
        }
        turnedWays.readWay(nth, filling);
        words.setLength(0);
        writeFilling(filling, false);
        return words.toString();
    }

    /** Promise 29. */
    public int common(int term, int other) throws IndexOutOfBoundsException {
        needTerm(term);
        needTerm(other);
        terms.forget();
        return terms.keep(commons.ofTwo(term, other));
    }

    // ---- the shelf

    /** Promise 30. */
    public int lay(int term) throws IndexOutOfBoundsException, IllegalStateException {
        needTerm(term);
        if (desk.laid >= MOST_SHELF) {
            throw new IllegalStateException("the shelf is full");
        }
        past.remember(desk);
        desk.addToShelf(term);
        return desk.laid;
    }

    /** Promise 31. */
    public int lift(int place) throws IndexOutOfBoundsException {
        needPlace(place);
        past.remember(desk);
        return desk.takeOff(place);
    }

    /** Promise 32. */
    public int shelf(int place) throws IndexOutOfBoundsException {
        needPlace(place);
        return desk.shelved[place];
    }

    /** Promise 33. */
    public int ask(int term, int what) throws IndexOutOfBoundsException, IllegalArgumentException {
        needTerm(term);
        if (what < 0 || what > 4) {
            throw new IllegalArgumentException("no such question");
        }
        return asked(term, what);
    }

    /** Promise 34. */
    public int commonOfAll() throws NoSuchElementException {
        if (desk.laid == 0) {
            throw new NoSuchElementException("nothing on the shelf");
        }
        terms.forget();
        int all = desk.shelved[0];
        if (desk.laid == 1) {
            all = commons.ofTwo(all, all);
        }
        for (int place = 1; place < desk.laid; place++) {
            all = commons.ofTwo(all, desk.shelved[place]);
        }
        return terms.keep(all);
    }

    // ---- the desk

    /** Promise 35. */
    public int undo() throws IllegalStateException {
        if (past.count == 0) {
            throw new IllegalStateException("nothing to undo");
        }
        past.bringBack(desk);
        return past.count;
    }

    /** Promise 36. */
    public int blank() {
        blanks++;
        return REFUSED;
    }

    /** Promise 37. */
    public int knock() {
        knocks++;
        return knocks;
    }

    /** Promise 38. */
    public int house(int what) throws IllegalArgumentException {
        if (what < 0 || what > 8) {
            throw new IllegalArgumentException("no such question");
        }
        return counted(what);
    }

    /** Promise 39. */
    public boolean isSound() {
        int last = terms.kept - 1;
        for (int other = last; other > last - 4; other--) {
            terms.forget();
            if (trial.solveOne(last, other) == SOLVED && !isWaySound(last, other)) {
                return false;
            }
            int both = commons.ofTwo(last, other);
            if (both != NONE && !(isCase(both, last, false) && isCase(both, other, false))) {
                return false;
            }
        }
        return desk.state != SOLVED || isRowSound();
    }

    /** Promise 40. */
    public long digest() {
        long sum = DIGEST_START;
        for (int what = 0; what <= 8; what++) {
            sum = sum * 31 + counted(what);
        }
        for (int number = 0; number < terms.kept; number++) {
            for (int what = 0; what <= 6; what++) {
                sum = sum * 31 + terms.told(number, what);
            }
        }
        writeFills();
        sum = withWords(sum);
        writeRings();
        sum = withWords(sum);
        sum = withEquations(sum);
        for (int k = 0; k < desk.unlikes && desk.state == SOLVED; k++) {
            sum = sum * 31 + stayed(k);
        }
        for (int place = 0; place < desk.laid; place++) {
            sum = sum * 31 + desk.shelved[place];
        }
        for (int what = 0; what <= 4; what++) {
            sum = sum * 31 + asked(terms.kept - 1, what);
        }
        return sum * 31 + (isSound() ? 1 : 0);
    }

    // ---- what the face looks at before it answers

    private void needTerm(int number) {
        if (!terms.isKept(number)) {
            throw new IndexOutOfBoundsException("no such term");
        }
    }

    private void needName(int name) {
        if (name < 0 || name >= NAMES) {
            throw new IllegalArgumentException("no such name");
        }
    }

    private void needPlace(int place) {
        if (place < 0 || place >= desk.laid) {
            throw new IndexOutOfBoundsException("no such place");
        }
    }

    private void needSolved() {
        if (desk.state != SOLVED) {
            throw new IllegalStateException("not solved");
        }
    }

    // ---- what several methods of the face share

    private int counted(int what) {
        switch (what) {
            case 0: return terms.kept;
            case 1: return desk.countFills();
            case 2: return desk.equations;
            case 3: return desk.unlikes;
            case 4: return desk.state;
            case 5: return desk.laid;
            case 6: return past.count;
            case 7: return blanks;
            default: return knocks;
        }
    }

    private void loadRow() {
        terms.forget();
        desk.load(row, terms);
    }

    private void writeFilling(Filling told, boolean isOwnTold) {
        boolean isFirst = true;
        for (int name = 0; name < NAMES; name++) {
            boolean isOwn = told.given(name) == FIRST_NAME + name;
            if (!told.isGiven(name) || isOwn && !isOwnTold) {
                continue;
            }
            if (!isFirst) {
                words.append(';');
            }
            isFirst = false;
            words.append(NAME_LETTERS.charAt(name));
            words.append('=');
            terms.write(told.given(name), words);
        }
    }

    private void writeFills() {
        words.setLength(0);
        desk.readFills(filling);
        writeFilling(filling, false);
    }

    private void writeRings() {
        words.setLength(0);
        int inRing = ringNames();
        for (int name = 0; name < NAMES; name++) {
            if ((inRing & 1 << name) == 0) {
                continue;
            }
            if (words.length() > 0) {
                words.append(' ');
            }
            words.append(NAME_LETTERS.charAt(name));
        }
        if (inRing == 0) {
            words.append('-');
        }
    }

    /** The set of the NAMES that come to themselves by FILLS. */
    private int ringNames() {
        int inRing = 0;
        for (int name = 0; name < NAMES; name++) {
            int reached = namesOfFill(name);
            for (int round = 0; round < NAMES; round++) {
                reached |= namesOfFills(reached);
            }
            inRing |= reached & 1 << name;
        }
        return inRing;
    }

    private int namesOfFill(int name) {
        return terms.namesOf(desk.fillBy[name]);
    }

    private int namesOfFills(int names) {
        int all = 0;
        for (int name = 0; name < NAMES; name++) {
            if ((names & 1 << name) != 0) {
                all |= namesOfFill(name);
            }
        }
        return all;
    }

    /** Without a ring of FILLS: each NAME with a FILL gets what it is in the end, into the filling. */
    private void fillDeeply() {
        terms.forget();
        int filledNames = desk.filledNames();
        filling.empty();
        for (int round = 0; round < NAMES; round++) {
            for (int name = 0; name < NAMES; name++) {
                int waitsFor = namesOfFill(name) & filledNames & ~filling.names;
                if (desk.fillBy[name] != NONE && !filling.isGiven(name) && waitsFor == 0) {
                    filling.give(name, Terms.filled(terms, desk.fillBy[name], filling, 0));
                }
            }
        }
    }

    /** Brings the row of the one EQUATION of both to its end; its STATE. */
    private int tryAlike(int one, int other) {
        terms.forget();
        return trial.solveOne(one, other);
    }

    private int stayed(int k) {
        loadRow();
        row.readFilling(filling);
        int one = Terms.filled(terms, desk.unlikeOnes[k], filling, 0);
        int other = Terms.filled(terms, desk.unlikeOthers[k], filling, 0);
        if (one == other) {
            return 2;
        }
        int state = trial.solveOne(one, other);
        if (state == GREAT) {
            return REFUSED;
        }
        return state == SOLVED ? 0 : 1;
    }

    /** Whether some filling of the pattern gives the target. */
    private boolean isCase(int pattern, int target, boolean isTurning) {
        if (!isTurning) {
            filling.empty();
            return Terms.fits(terms, filling, pattern, target, 0);
        }
        turnedMatch.begin();
        turnedMatch.want(pattern, target);
        return turnedMatch.isPossible();
    }

    private int asked(int number, int what) {
        int places = 0;
        for (int place = 0; place < desk.laid; place++) {
            int other = desk.shelved[place];
            boolean isAnswer;
            switch (what) {
                case 0:
                    terms.forget();
                    isAnswer = trial.solveOne(number, Terms.filled(terms, other, apart, 0)) == SOLVED;
                    break;
                case 1:
                    isAnswer = isCase(number, other, false);
                    break;
                case 2:
                    isAnswer = isCase(other, number, false);
                    break;
                case 3:
                    isAnswer = isCase(number, other, false) && isCase(other, number, false);
                    break;
                default:
                    isAnswer = Terms.isAlike(terms, null, number, other, 0);
            }
            if (isAnswer) {
                places |= 1 << place;
            }
        }
        return places;
    }

    /** Of the row that was just SOLVED: its filling makes both the same, and they are alike endless. */
    private boolean isWaySound(int one, int other) {
        trial.readFilling(filling);
        return Terms.filled(terms, one, filling, 0) == Terms.filled(terms, other, filling, 0)
                && endless.isPossible(one, other);
    }

    private boolean isRowSound() {
        loadRow();
        for (int k = 0; k < row.count; k++) {
            int name = terms.nameOf(row.left(k));
            if (name == NONE || row.isElsewhere(name, k) || terms.hasName(row.right(k), name)) {
                return false;
            }
        }
        return true;
    }

    private long withWords(long sum) {
        long now = sum;
        for (int i = 0; i < words.length(); i++) {
            now = now * 31 + words.charAt(i);
        }
        return now;
    }

    private long withEquations(long sum) {
        long now = sum;
        loadRow();
        for (int k = 0; k < row.count; k++) {
            words.setLength(0);
            row.write(k, words);
            now = withWords(now);
        }
        return now;
    }

    // ---- classes of its own

    /**
     * All terms that stand: the kept ones, and those that one call makes for itself and then forgets.
     * Each stands once, so two terms are the same if their nodes are.
     */
    private static final class Terms {
        private final int[] signs = new int[MOST_NODES];
        private final int[] firsts = new int[MOST_NODES];
        private final int[] seconds = new int[MOST_NODES];
        private final int[] sizes = new int[MOST_NODES];
        private final int[] heights = new int[MOST_NODES];
        private final int[] nameSets = new int[MOST_NODES];
        private final int[] nexts = new int[MOST_NODES];
        private final int[] buckets = new int[BUCKETS];
        private int kept;
        private int used;

        private Terms() {
            Arrays.fill(buckets, NONE);
            setLeaf(SIGN_A, SIGN_A, 0);
            setLeaf(SIGN_B, SIGN_B, 0);
            for (int name = 0; name < NAMES; name++) {
                setLeaf(FIRST_NAME + name, NONE, 1 << name);
                setLeaf(APART_NODES + name, NONE, 1 << NAMES + name);
            }
            kept = FIRST_NAME + NAMES;
            used = FREE_NODES;
        }

        private void setLeaf(int node, int sign, int nameSet) {
            signs[node] = sign;
            firsts[node] = NONE;
            seconds[node] = NONE;
            sizes[node] = 1;
            heights[node] = 1;
            nameSets[node] = nameSet;
        }

        /** The first part stands; the second one stands or is NONE. */
        private void setNode(int node, int sign, int first, int second) {
            boolean isPair = second != NONE;
            int size = 1 + sizes[first] + (isPair ? sizes[second] : 0);
            int secondHeight = isPair ? heights[second] : 0;
            signs[node] = sign;
            firsts[node] = first;
            seconds[node] = second;
            sizes[node] = size < HUGE ? size : HUGE;
            heights[node] = 1 + (heights[first] > secondHeight ? heights[first] : secondHeight);
            nameSets[node] = nameSets[first] | (isPair ? nameSets[second] : 0);
        }

        private boolean isKept(int number) {
            return number >= 0 && number < kept;
        }

        private boolean isNode(int node) {
            return node >= 0 && node < used;
        }

        private int signOf(int node) {
            return node >= 0 && node < used ? signs[node] : NONE;
        }

        private int firstOf(int node) {
            return node >= 0 && node < used ? firsts[node] : NONE;
        }

        private int secondOf(int node) {
            return node >= 0 && node < used ? seconds[node] : NONE;
        }

        private int sizeOf(int node) {
            return node >= 0 && node < used ? sizes[node] : 0;
        }

        private int heightOf(int node) {
            return node >= 0 && node < used ? heights[node] : 0;
        }

        private int namesOf(int node) {
            return node >= 0 && node < used ? nameSets[node] : 0;
        }

        private boolean hasName(int node, int name) {
            return node >= 0 && node < used && (nameSets[node] & 1 << name) != 0;
        }

        /** The NAME that the node is, or NONE. */
        private int nameOf(int node) {
            if (node >= FIRST_NAME && node < FIRST_NAME + NAMES) {
                return node - FIRST_NAME;
            }
            if (node >= APART_NODES && node < FREE_NODES) {
                return node - APART_NODES + NAMES;
            }
            return NONE;
        }

        private char letterOf(int node) {
            int name = nameOf(node);
            if (name != NONE) {
                return NAME_LETTERS.charAt(name % NAMES);
            }
            int sign = signOf(node);
            return sign >= 0 && sign < SIGNS ? SIGN_LETTERS.charAt(sign) : '?';
        }

        /** The node with that sign and those parts; NONE if a part is none, or no room is left. */
        private int made(int sign, int first, int second) {
            int right = sign == SIGN_F ? NONE : second;
            if (!isNode(first) || sign != SIGN_F && !isNode(right)) {
                return NONE;
            }
            int bucket = bucketOf(sign, first, right);
            int node = buckets[bucket];
            for (int looked = 0; looked < MOST_NODES && isNode(node); looked++) {
                if (isSame(node, sign, first, right)) {
                    return node;
                }
                node = nexts[node];
            }
            if (used >= MOST_NODES) {
                return NONE;
            }
            int fresh = used;
            used++;
            setNode(fresh, sign, first, right);
            nexts[fresh] = buckets[bucket];
            buckets[bucket] = fresh;
            return fresh;
        }

        private boolean isSame(int node, int sign, int first, int second) {
            return signs[node] == sign && firsts[node] == first && seconds[node] == second;
        }

        private int bucketOf(int sign, int first, int second) {
            return (sign * 7 + first * 31 + second * 61) & (BUCKETS - 1);
        }

        /** All nodes that are not kept go. The last one hung up stands first in its chain, so they go backward. */
        private void forget() {
            for (int node = used - 1; node >= FREE_NODES; node--) {
                buckets[bucketOf(signs[node], firsts[node], seconds[node])] = nexts[node];
            }
            used = FREE_NODES;
        }

        /** KEEPS what the node is, and forgets all others; its number, or REFUSED. */
        private int keep(int node) {
            int before = kept;
            int number = sizeOf(node) > MOST_SIZE ? NONE : keepWithin(this, node, 0);
            forget();
            if (number == NONE) {
                kept = before;
                return REFUSED;
            }
            for (int fresh = before; fresh < kept; fresh++) {
                int bucket = bucketOf(signs[fresh], firsts[fresh], seconds[fresh]);
                nexts[fresh] = buckets[bucket];
                buckets[bucket] = fresh;
            }
            return number;
        }

        private static int keepWithin(Terms terms, int node, int level) {
            if (level > DEEPEST || !terms.isNode(node)) {
                return NONE;
            }
            if (terms.isKept(node)) {
                return node;
            }
            int sign = terms.signOf(node);
            int first = keepWithin(terms, terms.firstOf(node), level + 1);
            int second = NONE;
            if (first == NONE) {
                return NONE;
            }
            if (sign != SIGN_F) {
                second = keepWithin(terms, terms.secondOf(node), level + 1);
                if (second == NONE) {
                    return NONE;
                }
            }
            return terms.keepOne(sign, first, second);
        }

        private int keepOne(int sign, int first, int second) {
            for (int number = 0; number < kept; number++) {
                if (isSame(number, sign, first, second)) {
                    return number;
                }
            }
            if (kept >= MOST_TERMS) {
                return NONE;
            }
            setNode(kept, sign, first, second);
            kept++;
            return kept - 1;
        }

        private void write(int node, StringBuilder out) {
            writeWithin(this, node, out, 0);
        }

        private static void writeWithin(Terms terms, int node, StringBuilder out, int level) {
            if (level > DEEPEST) {
                return;
            }
            out.append(terms.letterOf(node));
            if (terms.firstOf(node) == NONE) {
                return;
            }
            out.append('(');
            writeWithin(terms, terms.firstOf(node), out, level + 1);
            if (terms.secondOf(node) != NONE) {
                out.append(',');
                writeWithin(terms, terms.secondOf(node), out, level + 1);
            }
            out.append(')');
        }

        private int told(int number, int what) {
            switch (what) {
                case 0: return signOf(number);
                case 1: return sizeOf(number);
                case 2: return countWithin(number);
                case 3: return heightOf(number);
                case 4: return namesOf(number);
                case 5: return firstOf(number);
                default: return secondOf(number);
            }
        }

        /** How many different kept terms are within a kept one: parts have smaller numbers than what they are of. */
        private int countWithin(int number) {
            long within = bitOf(number);
            int count = 0;
            for (int each = number; each >= 0; each--) {
                if ((within & bitOf(each)) != 0) {
                    count++;
                    within |= bitOf(firstOf(each)) | bitOf(secondOf(each));
                }
            }
            return count;
        }

        private long bitOf(int number) {
            return number >= 0 && number < MOST_TERMS ? 1L << number : 0;
        }

        /** The node that stands at that place in ORDER. */
        private int standsAt(int whole, int place) {
            int node = whole;
            int ahead = place;
            for (int level = 0; level < DEEPEST && ahead > 0; level++) {
                ahead--;
                int firstSize = sizeOf(firstOf(node));
                if (ahead < firstSize) {
                    node = firstOf(node);
                } else {
                    ahead -= firstSize;
                    node = secondOf(node);
                }
            }
            return node;
        }

        private static int filled(Terms terms, int node, Filling filling, int level) {
            if (level > DEEPEST) {
                return NONE;
            }
            if ((terms.namesOf(node) & filling.names) == 0) {
                return node;
            }
            int name = terms.nameOf(node);
            if (name != NONE) {
                return filling.given(name);
            }
            int sign = terms.signOf(node);
            int first = filled(terms, terms.firstOf(node), filling, level + 1);
            if (sign == SIGN_F) {
                return terms.made(sign, first, NONE);
            }
            return terms.made(sign, first, filled(terms, terms.secondOf(node), filling, level + 1));
        }

        /** Gives the filling more, so that it makes the target of the pattern; whether it can. */
        private static boolean fits(Terms terms, Filling filling, int pattern, int target, int level) {
            if (level > DEEPEST) {
                return false;
            }
            int name = terms.nameOf(pattern);
            if (name != NONE) {
                if (filling.isGiven(name)) {
                    return filling.given(name) == target;
                }
                filling.give(name, target);
                return true;
            }
            int sign = terms.signOf(pattern);
            if (sign == NONE || sign != terms.signOf(target)) {
                return false;
            }
            if (sign < SIGN_F) {
                return true;
            }
            if (!fits(terms, filling, terms.firstOf(pattern), terms.firstOf(target), level + 1)) {
                return false;
            }
            return sign == SIGN_F
                    || fits(terms, filling, terms.secondOf(pattern), terms.secondOf(target), level + 1);
        }

        /**
         * Whether the one, filled, is alike with the other by TURNING; without a filling, as it is.
         * What is alike by turning makes classes, so where both first parts are alike,
         * the second ones alone decide, and the crossed pairs need no look.
         */
        private static boolean isAlike(Terms terms, Filling filling, int one, int other, int level) {
            if (level > DEEPEST) {
                return false;
            }
            int name = terms.nameOf(one);
            if (filling != null && name != NONE) {
                return isAlike(terms, null, filling.given(name), other, level + 1);
            }
            if (filling == null && one == other) {
                return true;
            }
            int sign = terms.signOf(one);
            if (sign == NONE || sign != terms.signOf(other)) {
                return false;
            }
            if (sign < SIGN_F) {
                return true;
            }
            if (filling == null && terms.sizeOf(one) != terms.sizeOf(other)) {
                return false;
            }
            int first = terms.firstOf(one);
            int second = terms.secondOf(one);
            int otherFirst = terms.firstOf(other);
            int otherSecond = terms.secondOf(other);
            if (isAlike(terms, filling, first, otherFirst, level + 1)) {
                return sign == SIGN_F || isAlike(terms, filling, second, otherSecond, level + 1);
            }
            return sign == SIGN_C && isAlike(terms, filling, first, otherSecond, level + 1)
                    && isAlike(terms, filling, second, otherFirst, level + 1);
        }
    }

    /** Some NAMES, each with a node. */
    private static final class Filling {
        private final int[] nodes = new int[ALL_NAMES];
        private int names;

        private void empty() {
            names = 0;
        }

        private void give(int name, int node) {
            if (name >= 0 && name < ALL_NAMES) {
                nodes[name] = node;
                names |= 1 << name;
            }
        }

        private boolean isGiven(int name) {
            return name >= 0 && name < ALL_NAMES && (names & 1 << name) != 0;
        }

        /** The NAME's node; the NAME itself, if it has none. */
        private int given(int name) {
            if (name >= 0 && name < ALL_NAMES && (names & 1 << name) != 0) {
                return nodes[name];
            }
            return name < NAMES ? FIRST_NAME + name : APART_NODES + name - NAMES;
        }
    }

    /** A row of equations that is brought to its end. */
    private static final class Row {
        private final Terms terms;
        private final Filling single = new Filling();
        private final int[] lefts = new int[MOST_ROW];
        private final int[] rights = new int[MOST_ROW];
        private int count;
        private int state;
        // The equation that the last rule looked for was found at.
        private int place;

        private Row(Terms terms) {
            this.terms = terms;
        }

        private void empty() {
            count = 0;
            state = OPEN;
            place = 0;
        }

        private void add(int left, int right) {
            if (count >= MOST_ROW) {
                state = GREAT;
                return;
            }
            lefts[count] = left;
            rights[count] = right;
            count++;
        }

        private void take(Row other) {
            System.arraycopy(other.lefts, 0, lefts, 0, other.count);
            System.arraycopy(other.rights, 0, rights, 0, other.count);
            count = other.count;
            state = other.state;
            place = other.place;
        }

        private int left(int k) {
            return k >= 0 && k < count ? lefts[k] : NONE;
        }

        private int right(int k) {
            return k >= 0 && k < count ? rights[k] : NONE;
        }

        private void write(int k, StringBuilder out) {
            terms.write(left(k), out);
            out.append('=');
            terms.write(right(k), out);
        }

        /** SOLVED, the row is a filling. */
        private void readFilling(Filling into) {
            into.empty();
            for (int k = 0; k < count; k++) {
                into.give(terms.nameOf(lefts[k]), rights[k]);
            }
        }

        /** Brings the row of this one equation to its end; its STATE. */
        private int solveOne(int one, int other) {
            empty();
            add(one, other);
            for (int done = 0; done < FAR_BOUND && state == OPEN; done++) {
                int rule = findRule(false);
                if (rule == 0) {
                    state = SOLVED;
                } else {
                    apply(rule);
                }
            }
            return state;
        }

        /** Does a STEP; its RULE, or 0. */
        private int advance() {
            if (state != OPEN) {
                return 0;
            }
            int rule = findRule(false);
            if (rule == 0) {
                state = SOLVED;
                return 0;
            }
            apply(rule);
            return state == GREAT ? 0 : rule;
        }

        private int findRule(boolean isTurning) {
            for (int k = 0; k < count; k++) {
                int rule = ruleAt(k, isTurning);
                if (rule != 0) {
                    place = k;
                    return rule;
                }
            }
            return 0;
        }

        private int ruleAt(int k, boolean isTurning) {
            int left = left(k);
            int right = right(k);
            if (left == right || isTurning && Terms.isAlike(terms, null, left, right, 0)) {
                return 1;
            }
            int name = terms.nameOf(left);
            boolean isRightName = terms.nameOf(right) != NONE;
            if (name == NONE) {
                if (isRightName) {
                    return 4;
                }
                return terms.signOf(left) == terms.signOf(right) ? 3 : 2;
            }
            if (terms.hasName(right, name)) {
                return 5;
            }
            return isElsewhere(name, k) ? 6 : 0;
        }

        private boolean isElsewhere(int name, int but) {
            for (int k = 0; k < count; k++) {
                if (k != but && (terms.hasName(lefts[k], name) || terms.hasName(rights[k], name))) {
                    return true;
                }
            }
            return false;
        }

        /** Does what the RULE says at the place that was found for it. */
        private void apply(int rule) {
            switch (rule) {
                case 1:
                    removeOne();
                    break;
                case 2:
                    state = CLASH;
                    break;
                case 3:
                    splitOne(false);
                    break;
                case 4:
                    int left = left(place);
                    setOne(place, right(place), left);
                    break;
                case 5:
                    state = RING;
                    break;
                default:
                    putIntoOthers();
            }
        }

        private void setOne(int k, int left, int right) {
            if (k >= 0 && k < count) {
                lefts[k] = left;
                rights[k] = right;
            }
        }

        private void removeOne() {
            if (place < 0 || place >= count) {
                return;
            }
            int behind = count - place - 1;
            System.arraycopy(lefts, place + 1, lefts, place, behind);
            System.arraycopy(rights, place + 1, rights, place, behind);
            count--;
        }

        private void splitOne(boolean isCrossed) {
            int left = left(place);
            int right = right(place);
            int rightFirst = terms.firstOf(right);
            int rightSecond = terms.secondOf(right);
            setOne(place, terms.firstOf(left), isCrossed ? rightSecond : rightFirst);
            if (terms.secondOf(left) != NONE) {
                insertBehind(terms.secondOf(left), isCrossed ? rightFirst : rightSecond);
            }
        }

        private void insertBehind(int left, int right) {
            if (place < 0 || place >= count || count >= MOST_ROW) {
                state = GREAT;
                return;
            }
            int behind = count - place - 1;
            System.arraycopy(lefts, place + 1, lefts, place + 2, behind);
            System.arraycopy(rights, place + 1, rights, place + 2, behind);
            count++;
            setOne(place + 1, left, right);
        }

        /**
         * GREAT, if a side would be too big: then all stays as it is, so it is looked at first.
         * A side that the name does not stand in is the same node as before, and counts for nothing, however big.
         */
        private void putIntoOthers() {
            single.empty();
            single.give(terms.nameOf(left(place)), right(place));
            for (int k = 0; k < count; k++) {
                int left = Terms.filled(terms, lefts[k], single, 0);
                int right = Terms.filled(terms, rights[k], single, 0);
                if (k != place && (left != lefts[k] && isTooBig(left) || right != rights[k] && isTooBig(right))) {
                    state = GREAT;
                    return;
                }
            }
            for (int k = 0; k < count; k++) {
                if (k != place) {
                    lefts[k] = Terms.filled(terms, lefts[k], single, 0);
                    rights[k] = Terms.filled(terms, rights[k], single, 0);
                }
            }
        }

        /** What could not be made has no size: it counts as too big. */
        private boolean isTooBig(int side) {
            int size = terms.sizeOf(side);
            return size < 1 || size > MOST_SIDE;
        }
    }

    /** What undo() brings back: fills, equations, state, pairs, the shelf. */
    private static final class Desk {
        private final int[] fillBy = new int[NAMES];
        // The sides are written sign by sign, since what a row is made of is forgotten with the call.
        private final byte[] codes = new byte[MOST_CODES];
        private int codeCount;
        private int cursor;
        private int equations;
        private int state;
        private final int[] unlikeOnes = new int[MOST_UNLIKE];
        private final int[] unlikeOthers = new int[MOST_UNLIKE];
        private int unlikes;
        private final int[] shelved = new int[MOST_SHELF];
        private int laid;

        private Desk() {
            Arrays.fill(fillBy, NONE);
        }

        private void take(Desk other) {
            System.arraycopy(other.fillBy, 0, fillBy, 0, NAMES);
            System.arraycopy(other.codes, 0, codes, 0, other.codeCount);
            codeCount = other.codeCount;
            equations = other.equations;
            state = other.state;
            System.arraycopy(other.unlikeOnes, 0, unlikeOnes, 0, MOST_UNLIKE);
            System.arraycopy(other.unlikeOthers, 0, unlikeOthers, 0, MOST_UNLIKE);
            unlikes = other.unlikes;
            System.arraycopy(other.shelved, 0, shelved, 0, MOST_SHELF);
            laid = other.laid;
        }

        private int filledNames() {
            int names = 0;
            for (int name = 0; name < NAMES; name++) {
                if (fillBy[name] != NONE) {
                    names |= 1 << name;
                }
            }
            return names;
        }

        private int countFills() {
            return Integer.bitCount(filledNames());
        }

        private void readFills(Filling into) {
            into.empty();
            for (int name = 0; name < NAMES; name++) {
                if (fillBy[name] != NONE) {
                    into.give(name, fillBy[name]);
                }
            }
        }

        private void addEquation(Terms terms, int left, int right) {
            encode(this, terms, left, 0);
            encode(this, terms, right, 0);
            equations++;
        }

        private void dropEquations() {
            codeCount = 0;
            equations = 0;
            unlikes = 0;
            state = OPEN;
        }

        private void addUnlike(int one, int other) {
            if (unlikes < MOST_UNLIKE) {
                unlikeOnes[unlikes] = one;
                unlikeOthers[unlikes] = other;
                unlikes++;
            }
        }

        private void addToShelf(int number) {
            if (laid < MOST_SHELF) {
                shelved[laid] = number;
                laid++;
            }
        }

        private int takeOff(int place) {
            if (place < 0 || place >= laid) {
                return NONE;
            }
            int number = shelved[place];
            System.arraycopy(shelved, place + 1, shelved, place, laid - place - 1);
            laid--;
            return number;
        }

        private void load(Row row, Terms terms) {
            row.empty();
            cursor = 0;
            for (int k = 0; k < equations; k++) {
                int left = decode(this, terms, 0);
                row.add(left, decode(this, terms, 0));
            }
            row.state = state;
        }

        private void store(Row row, Terms terms) {
            codeCount = 0;
            equations = 0;
            for (int k = 0; k < row.count; k++) {
                addEquation(terms, row.left(k), row.right(k));
            }
            state = row.state;
        }

        private static void encode(Desk desk, Terms terms, int node, int level) {
            if (node == NONE || level > DEEPEST || desk.codeCount >= MOST_CODES) {
                return;
            }
            int name = terms.nameOf(node);
            desk.codes[desk.codeCount] = (byte) (name == NONE ? terms.signOf(node) : SIGNS + name);
            desk.codeCount++;
            encode(desk, terms, terms.firstOf(node), level + 1);
            encode(desk, terms, terms.secondOf(node), level + 1);
        }

        private static int decode(Desk desk, Terms terms, int level) {
            if (level > DEEPEST || desk.cursor >= desk.codeCount || desk.cursor >= MOST_CODES) {
                return NONE;
            }
            int code = desk.codes[desk.cursor];
            desk.cursor++;
            if (code >= SIGNS) {
                return FIRST_NAME + code - SIGNS;
            }
            if (code < SIGN_F) {
                return code;
            }
            int first = decode(desk, terms, level + 1);
            int second = code == SIGN_F ? NONE : decode(desk, terms, level + 1);
            return terms.made(code, first, second);
        }
    }

    /** The last eight desks. */
    private static final class Past {
        private final Desk[] desks = new Desk[MOST_UNDO];
        private int start;
        private int count;

        private Past() {
            for (int i = 0; i < MOST_UNDO; i++) {
                desks[i] = new Desk();
            }
        }

        private void remember(Desk desk) {
            desks[(start + count) % MOST_UNDO].take(desk);
            if (count < MOST_UNDO) {
                count++;
            } else {
                start = (start + 1) % MOST_UNDO;
            }
        }

        private void bringBack(Desk desk) {
            if (count > 0) {
                count--;
                desk.take(desks[(start + count) % MOST_UNDO]);
            }
        }
    }

    /**
     * Looks for a filling of patterns that makes them alike with their targets by TURNING.
     * A goal is a pattern with its target; goals hang together in chains, so that a choice
     * can go back to what was still to be met when it was made.
     */
    private static final class TurnedMatch {
        private final Terms terms;
        private final Filling filling = new Filling();
        private final int[] patterns = new int[MOST_GOALS];
        private final int[] targets = new int[MOST_GOALS];
        private final int[] nexts = new int[MOST_GOALS];
        private int goals;
        private int head;
        private final int[] choicePatterns = new int[MOST_GOALS];
        private final int[] choiceTargets = new int[MOST_GOALS];
        private final int[] choiceHeads = new int[MOST_GOALS];
        private final int[] choiceNames = new int[MOST_GOALS];
        private final int[] choiceGoals = new int[MOST_GOALS];
        private int choices;

        private TurnedMatch(Terms terms) {
            this.terms = terms;
        }

        private void begin() {
            filling.empty();
            goals = 0;
            head = NONE;
            choices = 0;
        }

        private boolean want(int pattern, int target) {
            if (goals >= MOST_GOALS) {
                return false;
            }
            patterns[goals] = pattern;
            targets[goals] = target;
            nexts[goals] = head;
            head = goals;
            goals++;
            return true;
        }

        private boolean isPossible() {
            for (int turn = 0; turn < FAR_BOUND; turn++) {
                if (head < 0 || head >= goals) {
                    return true;
                }
                int pattern = patterns[head];
                int target = targets[head];
                head = nexts[head];
                if (!meet(pattern, target) && !takeOtherChoice()) {
                    return false;
                }
            }
            return false;
        }

        /** Meets a goal, or puts the goals of its parts in its place; whether it still can be met. */
        private boolean meet(int pattern, int target) {
            if ((terms.namesOf(pattern) & ~filling.names) == 0) {
                return Terms.isAlike(terms, filling, pattern, target, 0);
            }
            int name = terms.nameOf(pattern);
            if (name != NONE) {
                filling.give(name, target);
                return true;
            }
            int sign = terms.signOf(pattern);
            if (sign != terms.signOf(target) || terms.sizeOf(pattern) > terms.sizeOf(target)) {
                return false;
            }
            int turn = sign == SIGN_C ? turnOf(pattern, target) : STRAIGHT;
            return turn != NONE && wantParts(pattern, target, turn == CROSSED);
        }

        private boolean wantParts(int pattern, int target, boolean isCrossed) {
            int first = terms.firstOf(target);
            int second = terms.secondOf(target);
            if (terms.secondOf(pattern) != NONE && !want(terms.secondOf(pattern), isCrossed ? first : second)) {
                return false;
            }
            return want(terms.firstOf(pattern), isCrossed ? second : first);
        }

        /**
         * Which way round the parts go; NONE if neither way can be. A part that is filled already tells it.
         * Only where both parts have open names, and the target's parts are unlike, there is a choice.
         */
        private int turnOf(int pattern, int target) {
            int first = terms.firstOf(pattern);
            int second = terms.secondOf(pattern);
            int targetFirst = terms.firstOf(target);
            int targetSecond = terms.secondOf(target);
            boolean isFirstOpen = (terms.namesOf(first) & ~filling.names) != 0;
            boolean isSecondOpen = (terms.namesOf(second) & ~filling.names) != 0;
            if (isFirstOpen && isSecondOpen) {
                return Terms.isAlike(terms, null, targetFirst, targetSecond, 0)
                        ? STRAIGHT : addChoice(pattern, target);
            }
            int ready = isFirstOpen ? second : first;
            if (Terms.isAlike(terms, filling, ready, isFirstOpen ? targetSecond : targetFirst, 0)) {
                return STRAIGHT;
            }
            return Terms.isAlike(terms, filling, ready, isFirstOpen ? targetFirst : targetSecond, 0)
                    ? CROSSED : NONE;
        }

        private int addChoice(int pattern, int target) {
            if (choices >= MOST_GOALS) {
                return NONE;
            }
            choicePatterns[choices] = pattern;
            choiceTargets[choices] = target;
            choiceHeads[choices] = head;
            choiceNames[choices] = filling.names;
            choiceGoals[choices] = goals;
            choices++;
            return STRAIGHT;
        }

        private boolean takeOtherChoice() {
            if (choices == 0) {
                return false;
            }
            choices--;
            goals = choiceGoals[choices];
            head = choiceHeads[choices];
            filling.names = choiceNames[choices];
            return wantParts(choicePatterns[choices], choiceTargets[choices], true);
        }
    }

    /** The WAYS of two terms by TURNING. */
    private static final class Ways {
        private final Terms terms;
        private final TurnedMatch turnedMatch;
        // Those still to be looked at; the last one is looked at now.
        private final Row[] rows = new Row[MOST_ROWS];
        private int waiting;
        private int ended;
        private boolean isTooMany;
        private int names;
        private final Filling solution = new Filling();
        private final int[] found = new int[MOST_ROWS * NAMES];
        private int foundCount;

        private Ways(Terms terms, TurnedMatch turnedMatch) {
            this.terms = terms;
            this.turnedMatch = turnedMatch;
            for (int i = 0; i < MOST_ROWS; i++) {
                rows[i] = new Row(terms);
            }
        }

        private void find(int one, int other) {
            names = terms.namesOf(one) | terms.namesOf(other);
            ended = 0;
            foundCount = 0;
            isTooMany = false;
            rows[0].empty();
            rows[0].add(one, other);
            waiting = 1;
            for (int done = 0; done < FAR_BOUND && waiting > 0 && !isTooMany; done++) {
                goOn(rows[waiting - 1]);
            }
        }

        private void goOn(Row row) {
            if (row.state == OPEN) {
                int rule = row.findRule(true);
                if (rule == 3 && terms.signOf(row.left(row.place)) == SIGN_C) {
                    branch(row);
                } else if (rule != 0) {
                    row.apply(rule);
                } else {
                    row.state = SOLVED;
                }
                return;
            }
            if (row.state == GREAT) {
                isTooMany = true;
                return;
            }
            if (row.state == SOLVED) {
                addFound(row);
            }
            ended++;
            waiting--;
        }

        /** Each row that waits comes to an end of its own, so with one too many of them nothing needs to be tried. */
        private void branch(Row row) {
            if (ended + waiting + 1 > MOST_ROWS || waiting >= MOST_ROWS) {
                isTooMany = true;
                return;
            }
            rows[waiting].take(row);
            rows[waiting].splitOne(false);
            row.splitOne(true);
            waiting++;
        }

        private void addFound(Row row) {
            if (foundCount >= MOST_ROWS) {
                isTooMany = true;
                return;
            }
            row.readFilling(solution);
            for (int name = 0; name < NAMES; name++) {
                found[foundCount * NAMES + name] = solution.given(name);
            }
            foundCount++;
        }

        /** Of what was found, only the WAYS stay. */
        private void leaveOut() {
            int left = 0;
            for (int i = 0; i < foundCount; i++) {
                for (int j = 0; j < foundCount; j++) {
                    if (j != i && isCaseOf(i, j) && (j < i || !isCaseOf(j, i))) {
                        left |= 1 << i;
                    }
                }
            }
            int staying = 0;
            for (int i = 0; i < foundCount; i++) {
                if ((left & 1 << i) == 0) {
                    System.arraycopy(found, i * NAMES, found, staying * NAMES, NAMES);
                    staying++;
                }
            }
            foundCount = staying;
        }

        /** Whether one and the same filling makes of the second finding all that the first one has. */
        private boolean isCaseOf(int one, int above) {
            turnedMatch.begin();
            for (int name = 0; name < NAMES; name++) {
                if ((names & 1 << name) != 0) {
                    turnedMatch.want(found[above * NAMES + name], found[one * NAMES + name]);
                }
            }
            return turnedMatch.isPossible();
        }

        private void readWay(int nth, Filling into) {
            into.empty();
            for (int name = 0; name < NAMES; name++) {
                if (nth >= 0 && nth < foundCount && (names & 1 << name) != 0) {
                    into.give(name, found[nth * NAMES + name]);
                }
            }
        }
    }

    /** What two terms have in common. */
    private static final class Commons {
        private final Terms terms;
        private final int[] ones = new int[NAMES];
        private final int[] others = new int[NAMES];
        private int pairs;

        private Commons(Terms terms) {
            this.terms = terms;
        }

        /** Its node; NONE if there is none. */
        private int ofTwo(int one, int other) {
            pairs = 0;
            return shared(this, one, other, 0);
        }

        private static int shared(Commons commons, int one, int other, int level) {
            Terms terms = commons.terms;
            if (level > DEEPEST || !terms.isNode(one) || !terms.isNode(other)) {
                return NONE;
            }
            int sign = terms.signOf(one);
            if (sign == NONE || sign != terms.signOf(other)) {
                return commons.nameFor(one, other);
            }
            if (sign < SIGN_F) {
                return one;
            }
            int first = shared(commons, terms.firstOf(one), terms.firstOf(other), level + 1);
            if (first == NONE || sign == SIGN_F) {
                return terms.made(sign, first, NONE);
            }
            return terms.made(sign, first, shared(commons, terms.secondOf(one), terms.secondOf(other), level + 1));
        }

        private int nameFor(int one, int other) {
            for (int pair = 0; pair < pairs; pair++) {
                if (ones[pair] == one && others[pair] == other) {
                    return FIRST_NAME + pair;
                }
            }
            if (pairs >= NAMES) {
                return NONE;
            }
            ones[pairs] = one;
            others[pairs] = other;
            pairs++;
            return FIRST_NAME + pairs - 1;
        }
    }

    /** Puts kept terms together in classes, as endless terms would have it. */
    private static final class Endless {
        private final Terms terms;
        private final int[] above = new int[MOST_TERMS];
        // Of each class, at its top: a term with a sign, if it has one.
        private final int[] signed = new int[MOST_TERMS];
        private final int[] ones = new int[MOST_CLASSING];
        private final int[] others = new int[MOST_CLASSING];
        private int waiting;

        private Endless(Terms terms) {
            this.terms = terms;
        }

        private boolean isPossible(int one, int other) {
            for (int number = 0; number < MOST_TERMS; number++) {
                above[number] = number;
                signed[number] = terms.isKept(number) && terms.signOf(number) != NONE ? number : NONE;
            }
            waiting = 0;
            await(one, other);
            for (int done = 0; done < FAR_BOUND && waiting > 0; done++) {
                waiting--;
                if (!join(topOf(ones[waiting]), topOf(others[waiting]))) {
                    return false;
                }
            }
            return true;
        }

        // Each join makes the classes fewer and lets two pairs wait at most, so the room is enough.
        private void await(int one, int other) {
            if (waiting < MOST_CLASSING && terms.isKept(one) && terms.isKept(other)) {
                ones[waiting] = one;
                others[waiting] = other;
                waiting++;
            }
        }

        private int topOf(int number) {
            int top = number;
            for (int up = 0; up < MOST_TERMS && above[top] != top; up++) {
                top = above[top];
            }
            return top;
        }

        private boolean join(int top, int otherTop) {
            if (top == otherTop) {
                return true;
            }
            int one = signed[top];
            int other = signed[otherTop];
            above[otherTop] = top;
            if (one == NONE) {
                signed[top] = other;
            }
            if (one == NONE || other == NONE) {
                return true;
            }
            if (terms.signOf(one) != terms.signOf(other)) {
                return false;
            }
            await(terms.firstOf(one), terms.firstOf(other));
            await(terms.secondOf(one), terms.secondOf(other));
            return true;
        }
    }
}
