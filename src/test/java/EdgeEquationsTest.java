/** The first and the last of what the document says of EQUATIONS and of two TERMS, sentence by sentence. */
public final class EdgeEquationsTest extends Checks {

    private static final int OPEN = 0;
    private static final int SOLVED = 1;
    private static final int CLASH = 2;
    private static final int RING = 3;
    private static final int GREAT = 4;

    public static void main(String[] args) {
        sameSidesGo();
        unlikeSigns();
        sameSigns();
        sidesChange();
        nameWithin();
        nameElsewhere();
        firstEquationFirst();
        solvedIsToldLate();
        fortyLettersAndFortyOne();
        greatChangesNothing();
        goesOnAsLongAsOpen();
        stateAfterEqual();
        tenEquations();
        sixPairs();
        stepsFrom1To20();
        clearOfNothing();
        places();
        solvedNames();
        staysOfPairs();
        end("equations keep their edges");
    }

    /** A desk with these EQUATIONS, each a left and a right text. */
    private static Matchmakingdesk with(String... sides) {
        Matchmakingdesk desk = new Matchmakingdesk();
        for (int i = 0; i + 1 < sides.length; i += 2) {
            desk.equal(of(desk, sides[i]), of(desk, sides[i + 1]));
        }
        return desk;
    }

    /** The next STEP is that RULE, and then there is that row, and that STATE. */
    private static void next(Matchmakingdesk desk, int rule, String row, int state) {
        due(desk.step(), rule);
        due(row(desk), row);
        due(desk.house(4), state);
    }

    private static void sameSidesGo() {
        about("RULE 1: the sides are the same: it goes; ahead of 3 and 5");
        Matchmakingdesk desk = with("x", "x", "f(f(x))", "f(f(x))", "a", "a", "g(x,c(a,b))", "g(x,c(a,b))");
        next(desk, 1, "f(f(x))=f(f(x)) a=a g(x,c(a,b))=g(x,c(a,b))", OPEN);
        next(desk, 1, "a=a g(x,c(a,b))=g(x,c(a,b))", OPEN);
        next(desk, 1, "g(x,c(a,b))=g(x,c(a,b))", OPEN);
        next(desk, 1, "", OPEN);
        next(desk, 0, "", SOLVED);
        about("RULE 1: the one in the middle, and the last one");
        Matchmakingdesk middle = with("x", "a", "b", "b", "y", "b", "z", "z");
        next(middle, 1, "x=a y=b z=z", OPEN);
        next(middle, 1, "x=a y=b", OPEN);
        about("on the desk sides that are alike by TURNING are not the same");
        Matchmakingdesk turned = with("c(a,b)", "c(b,a)");
        next(turned, 3, "a=b b=a", OPEN);
        next(turned, 2, "a=b b=a", CLASH);
    }

    private static void unlikeSigns() {
        about("RULE 2: both have SIGNS, and these are unlike: CLASH, and no EQUATION is changed");
        String[] each = {"a", "b", "f(x)", "g(x,x)", "c(x,x)"};
        for (int i = 0; i < 5; i++) {
            for (int j = 0; j < 5; j++) {
                Matchmakingdesk desk = with(each[i], each[j]);
                if (i == j) {
                    next(desk, 1, "", OPEN);
                } else {
                    next(desk, 2, each[i] + "=" + each[j], CLASH);
                    next(desk, 0, each[i] + "=" + each[j], CLASH);
                }
            }
        }
    }

    private static void sameSigns() {
        about("RULE 3: in its place come those of the first PARTS, and of the second ones, if there are such");
        Matchmakingdesk desk = with("x", "a", "f(y)", "f(b)", "z", "b", "g(u,v)", "g(a,f(b))");
        next(desk, 3, "x=a y=b z=b g(u,v)=g(a,f(b))", OPEN);
        next(desk, 3, "x=a y=b z=b u=a v=f(b)", OPEN);
        next(desk, 0, "x=a y=b z=b u=a v=f(b)", SOLVED);
        Matchmakingdesk first = with("c(x,f(a))", "c(f(b),y)", "z", "a");
        next(first, 3, "x=f(b) f(a)=y z=a", OPEN);
        about("RULE 3: the first PARTS, though the second ones would clash");
        Matchmakingdesk clash = with("g(f(x),a)", "g(f(b),b)");
        next(clash, 3, "f(x)=f(b) a=b", OPEN);
        next(clash, 3, "x=b a=b", OPEN);
        next(clash, 2, "x=b a=b", CLASH);
    }

    private static void sidesChange() {
        about("RULE 4: the right side is a NAME, and the left one is none: the sides change");
        Matchmakingdesk desk = with("a", "x", "g(y,b)", "z");
        next(desk, 4, "x=a g(y,b)=z", OPEN);
        next(desk, 4, "x=a z=g(y,b)", OPEN);
        next(desk, 0, "x=a z=g(y,b)", SOLVED);
        about("RULE 4: not with a NAME on the left");
        Matchmakingdesk names = with("w", "x");
        next(names, 0, "w=x", SOLVED);
        about("RULE 4 ahead of 5: the sides change, then there is a RING");
        Matchmakingdesk ring = with("f(x)", "x");
        next(ring, 4, "x=f(x)", OPEN);
        next(ring, 5, "x=f(x)", RING);
    }

    private static void nameWithin() {
        about("RULE 5: the left side is a NAME WITHIN the right one: RING, and no EQUATION is changed; ahead of 6");
        Matchmakingdesk desk = with("x", "g(a,f(x))", "y", "x");
        next(desk, 5, "x=g(a,f(x)) y=x", RING);
        next(desk, 0, "x=g(a,f(x)) y=x", RING);
        about("RULE 5: another NAME WITHIN the right side is no RING");
        Matchmakingdesk none = with("x", "g(y,f(w))");
        next(none, 0, "x=g(y,f(w))", SOLVED);
        about("RULE 5: only by what other EQUATIONS put");
        Matchmakingdesk later = with("x", "f(y)", "y", "f(x)");
        next(later, 6, "x=f(y) y=f(f(y))", OPEN);
        next(later, 5, "x=f(y) y=f(f(y))", RING);
    }

    private static void nameElsewhere() {
        about("RULE 6: in all others the right side is PUT for it, ahead and behind, left and right");
        Matchmakingdesk desk = with("y", "g(z,b)", "x", "f(a)", "g(x,x)", "u", "z", "c(x,f(x))");
        next(desk, 6, "y=g(z,b) x=f(a) g(f(a),f(a))=u z=c(f(a),f(f(a)))", OPEN);
        next(desk, 4, "y=g(z,b) x=f(a) u=g(f(a),f(a)) z=c(f(a),f(f(a)))", OPEN);
        next(desk, 6, "y=g(c(f(a),f(f(a))),b) x=f(a) u=g(f(a),f(a)) z=c(f(a),f(f(a)))", OPEN);
        next(desk, 0, "y=g(c(f(a),f(f(a))),b) x=f(a) u=g(f(a),f(a)) z=c(f(a),f(f(a)))", SOLVED);
        about("RULE 6: the NAME itself on both left sides");
        Matchmakingdesk twice = with("x", "a", "x", "b");
        next(twice, 6, "x=a a=b", OPEN);
        about("RULE 6: not for a NAME that stands in its own EQUATION alone, nor for one on the right");
        Matchmakingdesk alone = with("x", "f(y)", "z", "g(y,y)");
        next(alone, 0, "x=f(y) z=g(y,y)", SOLVED);
        about("RULE 6: a NAME for a NAME");
        Matchmakingdesk names = with("x", "y", "y", "x");
        next(names, 6, "x=y y=y", OPEN);
        next(names, 1, "x=y", OPEN);
        next(names, 0, "x=y", SOLVED);
    }

    private static void firstEquationFirst() {
        about("A STEP: the first EQUATION to which a RULE can be applied, though a later one clashes");
        Matchmakingdesk desk = with("x", "a", "f(y)", "f(b)", "a", "b");
        next(desk, 3, "x=a y=b a=b", OPEN);
        next(desk, 2, "x=a y=b a=b", CLASH);
        about("A STEP: one ahead to which a RULE can be applied once more comes first");
        Matchmakingdesk ahead = with("x", "y", "f(z)", "f(x)", "y", "a");
        next(ahead, 6, "x=y f(z)=f(y) y=a", OPEN);
        next(ahead, 3, "x=y z=y y=a", OPEN);
        next(ahead, 6, "x=a z=a y=a", OPEN);
        next(ahead, 0, "x=a z=a y=a", SOLVED);
    }

    private static void solvedIsToldLate() {
        about("SOLVED is told only as a STEP is to be done and no RULE can be applied to any");
        Matchmakingdesk desk = with("a", "x");
        due(desk.house(4), OPEN);
        next(desk, 4, "x=a", OPEN);
        refused(desk, STATE, () -> desk.solved(0));
        next(desk, 0, "x=a", SOLVED);
        due(desk.solved(0), "a");
        about("SOLVED: an empty row, too");
        Matchmakingdesk empty = new Matchmakingdesk();
        due(empty.house(4), OPEN);
        refused(empty, STATE, () -> empty.solved(5));
        next(empty, 0, "", SOLVED);
        due(empty.solved(5), "w");
        Matchmakingdesk again = new Matchmakingdesk();
        due(again.steps(1), 0);
        due(again.house(4), SOLVED);
        due(again.clear(), 0);
        due(again.house(4), OPEN);
    }

    // ---- GREAT

    /** SIZE 3 + how many f, with three y. */
    private static String threeYs(int count) {
        return fs(count, "g(y,g(y,y))");
    }

    private static void fortyLettersAndFortyOne() {
        about("GREAT: by RULE 6 a right side would have a SIZE above 40");
        Matchmakingdesk just = with("y", fs(11, "z"), "x", threeYs(2));
        due(just.step(), 6);
        next(just, 0, "y=" + fs(11, "z") + " x=" + threeYs(2).replace("y", fs(11, "z")), SOLVED);
        Matchmakingdesk over = with("y", fs(11, "z"), "x", threeYs(3));
        next(over, 0, "y=" + fs(11, "z") + " x=" + threeYs(3), GREAT);
        about("GREAT: by RULE 6 a left side would have a SIZE above 40");
        Matchmakingdesk justLeft = with("y", fs(11, "z"), threeYs(2), "x");
        due(justLeft.step(), 6);
        due(justLeft.step(), 4);
        due(justLeft.step(), 0);
        due(justLeft.house(4), SOLVED);
        due(justLeft.solved(0), threeYs(2).replace("y", fs(11, "z")));
        Matchmakingdesk overLeft = with("y", fs(11, "z"), threeYs(3), "x");
        next(overLeft, 0, "y=" + fs(11, "z") + " " + threeYs(3) + "=x", GREAT);
        about("GREAT: an EQUATION ahead of that one can be too big, too");
        Matchmakingdesk ahead = with("x", threeYs(3), "y", fs(11, "z"));
        next(ahead, 0, "x=" + threeYs(3) + " y=" + fs(11, "z"), GREAT);
        Matchmakingdesk justAhead = with("x", threeYs(2), "y", fs(11, "z"));
        due(justAhead.step(), 6);
        due(justAhead.step(), 0);
        due(justAhead.house(4), SOLVED);
        about("GREAT: a side of 40 that is there can be put into, a NAME for a NAME");
        Matchmakingdesk more = with("x", threeYs(2), "y", fs(11, "z"), "z", "u");
        due(more.steps(20), 2);
        due(more.house(4), SOLVED);
        due(more.solved(0), threeYs(2).replace("y", fs(11, "u")));
        about("GREAT: a side of 40 that is there, each TERM the only PART of the one ahead, left and right");
        Matchmakingdesk deep = with("x", fs(19, "y"), "y", fs(20, "z"), "z", "a");
        due(deep.steps(20), 2);
        due(deep.house(4), SOLVED);
        due(deep.solved(0), fs(39, "a"));
        due(deep.solved(1), fs(20, "a"));
        Matchmakingdesk deepLeft = with("x", fs(19, "y"), fs(20, "x"), "u", "z", "u", "y", "a");
        due(deepLeft.steps(20), 4);
        due(deepLeft.house(4), SOLVED);
        due(row(deepLeft), "x=" + fs(19, "a") + " u=" + fs(39, "a") + " z=" + fs(39, "a") + " y=a");
        about("GREAT: a side of 40 that is there, with one letter more");
        Matchmakingdesk one = with("x", threeYs(2).replaceFirst("y", "w"), "y", fs(11, "z"), "w", fs(11, "a"), "z", "f(u)");
        due(one.steps(20), 2);
        due(one.house(4), GREAT);
        due(one.equation(0), "x=" + threeYs(2).replaceFirst("y", fs(11, "a")).replace("y", fs(11, "z")));
        due(one.equation(1), "y=" + fs(11, "z"));
    }

    private static void greatChangesNothing() {
        about("GREAT: nothing is changed then, the sides ahead neither, and no STEP done");
        Matchmakingdesk desk = with("y", fs(11, "z"), "u", "f(y)", "x", threeYs(3), "v", "y");
        String before = row(desk);
        next(desk, 0, before, GREAT);
        due(desk.house(2), 4);
        Matchmakingdesk many = with("f(v)", "f(a)", "y", fs(11, "z"), "u", "f(y)", "x", threeYs(3));
        due(many.steps(20), 1);
        due(many.house(4), GREAT);
        due(row(many), "v=a y=" + fs(11, "z") + " u=f(y) x=" + threeYs(3));
        about("GREAT is told only as the STEP is to be done");
        Matchmakingdesk late = with("f(v)", "f(a)", "y", fs(11, "z"), "x", threeYs(3));
        due(late.steps(1), 1);
        due(late.house(4), OPEN);
        due(late.steps(1), 0);
        due(late.house(4), GREAT);
    }

    private static void goesOnAsLongAsOpen() {
        about("It goes on, as long as it is OPEN");
        String[][] ends = {{"x", "a"}, {"a", "b"}, {"x", "f(x)"}, {"y", fs(11, "z"), "x", threeYs(3)}};
        for (int state = SOLVED; state <= GREAT; state++) {
            Matchmakingdesk desk = with(ends[state - 1]);
            desk.steps(20);
            due(desk.house(4), state);
            String row = row(desk);
            next(desk, 0, row, state);
            due(desk.steps(1), 0);
            due(desk.steps(20), 0);
            due(row(desk), row);
            due(desk.house(4), state);
            due(desk.clear(), ends[state - 1].length / 2);
            due(desk.house(4), OPEN);
            due(desk.undo() >= 0, true);
            due(desk.house(4), state);
        }
    }

    private static void stateAfterEqual() {
        about("equal(): STATE is OPEN then, if it was SOLVED, and stays otherwise");
        String[][] ends = {{"x", "a"}, {"a", "b"}, {"x", "f(x)"}, {"y", fs(11, "z"), "x", threeYs(3)}};
        for (int state = SOLVED; state <= GREAT; state++) {
            Matchmakingdesk desk = with(ends[state - 1]);
            due(desk.house(4), OPEN);
            desk.steps(20);
            int count = desk.house(2);
            due(desk.equal(0, 0), count + 1);
            due(desk.house(4), state == SOLVED ? OPEN : state);
            due(desk.equation(count), "a=a");
            due(desk.step(), state == SOLVED ? 1 : 0);
            due(desk.house(2), state == SOLVED ? count : count + 1);
        }
        about("unlike() leaves STATE as it is");
        Matchmakingdesk pairs = with("x", "a");
        pairs.steps(20);
        pairs.unlike(2, 0);
        due(pairs.house(4), SOLVED);
        due(pairs.stays(0), 2);
    }

    // ---- how many

    private static void tenEquations() {
        about("equal(): at most 10 EQUATIONS");
        Matchmakingdesk desk = new Matchmakingdesk();
        due(desk.equal(0, 0), 1);
        for (int count = 2; count <= 10; count++) {
            due(desk.equal(2 + count % 6, 0), count);
        }
        refused(desk, STATE, () -> desk.equal(0, 0));
        refused(desk, STATE, () -> desk.equal(7, 7));
        for (int far : new int[] {Integer.MIN_VALUE, -1, 8, Integer.MAX_VALUE}) {
            refused(desk, BOUNDS, () -> desk.equal(far, 0));
            refused(desk, BOUNDS, () -> desk.equal(0, far));
        }
        due(desk.step(), 1);
        due(desk.house(2), 9);
        due(desk.equal(7, 7), 10);
        refused(desk, STATE, () -> desk.equal(0, 0));
        due(desk.equation(9), "w=w");
        about("more EQUATIONS may come by STEPS, and then none by equal() till there are 9");
        Matchmakingdesk more = new Matchmakingdesk();
        int left = of(more, "g(g(x,y),g(z,u))");
        int right = of(more, "g(g(a,a),g(a,a))");
        for (int count = 1; count <= 10; count++) {
            due(more.equal(left, right), count);
        }
        due(more.steps(2), 2);
        due(more.house(2), 12);
        refused(more, STATE, () -> more.equal(0, 0));
        due(more.equation(11), more.text(left) + "=" + more.text(right));
        refused(more, BOUNDS, () -> more.equation(12));
        // Two for x and y, then all of the last nine are g(g(a,a),g(z,u)).
        due(more.steps(3), 3);
        due(more.house(2), 13);
        // Two for z and u; then the last nine go one by one.
        due(more.steps(2), 2);
        due(more.house(2), 13);
        due(more.steps(3), 3);
        due(more.house(2), 10);
        refused(more, STATE, () -> more.equal(0, 0));
        due(more.step(), 1);
        due(more.equal(0, 0), 10);
        due(more.clear(), 10);
        due(more.equal(0, 0), 1);
    }

    private static void sixPairs() {
        about("unlike(): at most 6 UNLIKE pairs");
        Matchmakingdesk desk = new Matchmakingdesk();
        for (int count = 1; count <= 6; count++) {
            due(desk.unlike(count, 7 - count), count);
        }
        refused(desk, STATE, () -> desk.unlike(0, 1));
        for (int far : new int[] {Integer.MIN_VALUE, -1, 8, Integer.MAX_VALUE}) {
            refused(desk, BOUNDS, () -> desk.unlike(far, 0));
            refused(desk, BOUNDS, () -> desk.unlike(0, far));
        }
        due(desk.house(3), 6);
        desk.undo();
        due(desk.unlike(2, 2), 6);
        refused(desk, STATE, () -> desk.unlike(2, 2));
        due(desk.clear(), 0);
        due(desk.house(3), 0);
        due(desk.unlike(7, 7), 1);
    }

    private static void stepsFrom1To20() {
        about("steps(): most is 1 to 20");
        Matchmakingdesk desk = with("f(x)", "f(a)");
        for (int most : new int[] {Integer.MIN_VALUE, -1, 0, 21, Integer.MAX_VALUE}) {
            refused(desk, ARGUMENT, () -> desk.steps(most));
        }
        due(desk.steps(1), 1);
        due(desk.house(4), OPEN);
        due(desk.steps(20), 0);
        due(desk.house(4), SOLVED);
        refused(desk, ARGUMENT, () -> desk.steps(0));
        refused(desk, ARGUMENT, () -> desk.steps(21));
        about("steps(): SOLVED is told only if fewer than most were done");
        Matchmakingdesk twenty = with(fs(20, "x"), fs(20, "a"));
        due(twenty.steps(20), 20);
        due(twenty.house(4), OPEN);
        due(twenty.equation(0), "x=a");
        due(twenty.steps(1), 0);
        due(twenty.house(4), SOLVED);
        Matchmakingdesk nineteen = with(fs(19, "x"), fs(19, "a"));
        due(nineteen.steps(20), 19);
        due(nineteen.house(4), SOLVED);
        // Ten for x=a, one for x in the other, ten for y=a.
        Matchmakingdesk more = with(fs(10, "x"), fs(10, "a"), fs(10, "y"), fs(10, "x"));
        due(more.steps(20), 20);
        due(more.house(4), OPEN);
        due(row(more), "x=a f(y)=f(a)");
        due(more.steps(20), 1);
        due(more.house(4), SOLVED);
        Matchmakingdesk two = with("f(x)", "f(a)", "f(y)", "f(b)");
        due(two.steps(2), 2);
        due(two.house(4), OPEN);
        two.undo();
        due(two.steps(3), 2);
        due(two.house(4), SOLVED);
        about("steps(): RULES 2 and 5 are STEPS, and the last ones");
        Matchmakingdesk clash = with("f(a)", "f(b)", "x", "x");
        due(clash.steps(20), 2);
        due(clash.house(4), CLASH);
        due(row(clash), "a=b x=x");
        clash.undo();
        due(clash.steps(2), 2);
        due(clash.house(4), CLASH);
        Matchmakingdesk ring = with("f(x)", "f(f(x))", "a", "a");
        due(ring.steps(20), 2);
        due(ring.house(4), RING);
        due(row(ring), "x=f(x) a=a");
    }

    private static void clearOfNothing() {
        about("clear(): how many EQUATIONS there were, none or many; all UNLIKE pairs go; STATE is OPEN");
        Matchmakingdesk desk = new Matchmakingdesk();
        due(desk.clear(), 0);
        desk.unlike(0, 1);
        due(desk.clear(), 0);
        due(desk.house(3), 0);
        for (int i = 0; i < 10; i++) {
            desk.equal(of(desk, "g(x,y)"), of(desk, "g(a,b)"));
        }
        desk.step();
        due(desk.clear(), 11);
        due(desk.house(2), 0);
        due(desk.clear(), 0);
        due(desk.house(4), OPEN);
        desk.step();
        due(desk.house(4), SOLVED);
        due(desk.clear(), 0);
        due(desk.house(4), OPEN);
        refused(desk, BOUNDS, () -> desk.equation(0));
        refused(desk, BOUNDS, () -> desk.stays(0));
        desk.fill(0, 1);
        desk.lay(3);
        desk.clear();
        due(desk.fills(), "x=b");
        due(desk.shelf(0), 3);
    }

    private static void places() {
        about("equation(): there is such an EQUATION");
        Matchmakingdesk desk = new Matchmakingdesk();
        for (int far : new int[] {Integer.MIN_VALUE, -1, 0, 1, Integer.MAX_VALUE}) {
            refused(desk, BOUNDS, () -> desk.equation(far));
        }
        for (int count = 1; count <= 10; count++) {
            int last = count;
            desk.equal(count % 8, (count + 1) % 8);
            due(desk.equation(count - 1), "abxyzuvw".charAt(count % 8) + "=" + "abxyzuvw".charAt((count + 1) % 8));
            refused(desk, BOUNDS, () -> desk.equation(last));
            refused(desk, BOUNDS, () -> desk.equation(-1));
        }
        due(desk.equation(0), "b=x");
        about("equation(): sides of 25 letters");
        String wide = "g(" + fs(11, "x") + "," + fs(11, "y") + ")";
        Matchmakingdesk big = with(wide, wide.replace('x', 'z'));
        due(big.equation(0), wide + "=" + wide.replace('x', 'z'));
    }

    private static void solvedNames() {
        about("solved(): name is 0 to 5, ahead of what STATE is");
        Matchmakingdesk desk = with("x", "g(z,z)", "w", "a");
        for (int name : new int[] {Integer.MIN_VALUE, -1, 6, Integer.MAX_VALUE}) {
            refused(desk, ARGUMENT, () -> desk.solved(name));
        }
        about("solved(): only if STATE is SOLVED");
        refused(desk, STATE, () -> desk.solved(0));
        desk.step();
        for (int name : new int[] {Integer.MIN_VALUE, -1, 6, Integer.MAX_VALUE}) {
            refused(desk, ARGUMENT, () -> desk.solved(name));
        }
        about("solved(): itself, if it is no left side");
        String[] each = {"g(z,z)", "y", "z", "u", "v", "a"};
        for (int name = 0; name <= 5; name++) {
            due(desk.solved(name), each[name]);
        }
        String[][] ends = {{"a", "b"}, {"x", "f(x)"}, {"y", fs(11, "z"), "x", threeYs(3)}};
        for (String[] sides : ends) {
            about("solved(): not with CLASH, RING, GREAT");
            Matchmakingdesk other = with(sides);
            other.unlike(0, 0);
            other.steps(20);
            refused(other, STATE, () -> other.solved(0));
            refused(other, ARGUMENT, () -> other.solved(6));
            about("stays(): not with CLASH, RING, GREAT");
            refused(other, STATE, () -> other.stays(0));
            refused(other, BOUNDS, () -> other.stays(1));
        }
    }

    private static void staysOfPairs() {
        about("stays(): there is such a pair, ahead of what STATE is");
        Matchmakingdesk desk = new Matchmakingdesk();
        for (int far : new int[] {Integer.MIN_VALUE, -1, 0, 1, Integer.MAX_VALUE}) {
            refused(desk, BOUNDS, () -> desk.stays(far));
        }
        int fx = of(desk, "f(x)");
        desk.unlike(2, 3);
        desk.unlike(2, 0);
        desk.unlike(0, 2);
        desk.unlike(2, fx);
        desk.unlike(fx, fx);
        desk.unlike(4, 5);
        refused(desk, STATE, () -> desk.stays(0));
        refused(desk, STATE, () -> desk.stays(5));
        refused(desk, BOUNDS, () -> desk.stays(6));
        desk.step();
        int[] each = {0, 0, 0, 1, 2, 0};
        for (int k = 0; k < 6; k++) {
            due(desk.stays(k), each[k]);
        }
        refused(desk, BOUNDS, () -> desk.stays(6));
        refused(desk, BOUNDS, () -> desk.stays(-1));
        about("stays(): FILLED by the row");
        desk.equal(2, 0);
        desk.equal(5, 4);
        refused(desk, STATE, () -> desk.stays(0));
        desk.steps(20);
        int[] then = {0, 2, 2, 1, 2, 2};
        for (int k = 0; k < 6; k++) {
            due(desk.stays(k), then[k]);
        }
        about("stays(): they can not, by a CLASH that the row makes");
        desk.equal(3, 1);
        desk.steps(20);
        due(desk.stays(0), 1);
        about("stays(): of sides that are far down, into which another TERM is PUT");
        Matchmakingdesk far = with("x", fs(19, "y"));
        far.unlike(of(far, "g(" + fs(19, "x") + ",y)"), of(far, "g(z,a)"));
        due(far.house(0), 48);
        far.step();
        due(far.stays(0), 0);
        about("stays(): -9 if the row of the one EQUATION of both is GREAT, from 41 letters on");
        Matchmakingdesk great = with("w", fs(11, "z"));
        great.unlike(of(great, "g(y," + threeYs(2) + ")"), of(great, "g(w,x)"));
        great.unlike(of(great, "g(y," + threeYs(3) + ")"), of(great, "g(w,x)"));
        great.unlike(of(great, "g(w,x)"), of(great, "g(y," + threeYs(3) + ")"));
        great.unlike(of(great, "g(w,x)"), of(great, "g(y," + threeYs(2) + ")"));
        great.step();
        due(great.stays(0), 0);
        nine(great, () -> great.stays(1));
        nine(great, () -> great.stays(2));
        due(great.stays(3), 0);
        due(great.house(4), SOLVED);
    }
}
