/** The first and the last of what the document says of two TERMS: WAYS, CASES, TURNING, COMMON, ENDLESS. */
public final class EdgeTwoTermsTest extends Checks {

    // 8 rows, all SOLVED: the outer c turned or not, and each inner one.
    private static final String EIGHT = "c(c(x,y),c(z,u))";
    private static final String EIGHT_MET = "c(c(a,b),c(a,b))";

    public static void main(String[] args) {
        unifyEnds();
        unifyUpToForty();
        whyEnds();
        matches();
        casesAndVariants();
        turnedOrNot();
        turnedCases();
        endless();
        rowsUpTo24();
        rowsFrom25();
        greatRows();
        firstRuleByTurning();
        leftOut();
        numbersOfWays();
        inCommon();
        sixNamesInCommon();
        noSuchTerms();
        oneCallLeavesNothing();
        end("two terms keep their edges");
    }

    /** The desk holds both, and is asked for them. */
    private static String unify(String one, String other) {
        Matchmakingdesk desk = new Matchmakingdesk();
        return desk.unify(of(desk, one), of(desk, other));
    }

    private static String why(String one, String other) {
        Matchmakingdesk desk = new Matchmakingdesk();
        return desk.why(of(desk, one), of(desk, other));
    }

    private static String match(String one, String other) {
        Matchmakingdesk desk = new Matchmakingdesk();
        return desk.match(of(desk, one), of(desk, other));
    }

    private static int cases(String one, String other, boolean isTurned) {
        Matchmakingdesk desk = new Matchmakingdesk();
        return desk.cases(of(desk, one), of(desk, other), isTurned);
    }

    private static boolean isTurned(String one, String other) {
        Matchmakingdesk desk = new Matchmakingdesk();
        return desk.isTurned(of(desk, one), of(desk, other));
    }

    private static boolean isEndless(String one, String other) {
        Matchmakingdesk desk = new Matchmakingdesk();
        return desk.isEndless(of(desk, one), of(desk, other));
    }

    /** All WAYS with " | " between; "!" if TOO MANY. What ways() and way() tell must fit. */
    private static String ways(String one, String other) {
        Matchmakingdesk desk = new Matchmakingdesk();
        int left = of(desk, one);
        int right = of(desk, other);
        int count = desk.ways(left, right);
        if (count == -9) {
            nine(desk, () -> desk.ways(left, right));
            for (int nth : new int[] {Integer.MIN_VALUE, -1, 0, 1, 24, Integer.MAX_VALUE}) {
                due(desk.way(left, right, nth), "!");
            }
            return "!";
        }
        StringBuilder all = new StringBuilder();
        for (int nth = 0; nth < count; nth++) {
            all.append(nth == 0 ? "" : " | ").append(desk.way(left, right, nth));
        }
        for (int nth : new int[] {Integer.MIN_VALUE, -1, count, count + 1, Integer.MAX_VALUE}) {
            refused(desk, ELEMENT, () -> desk.way(left, right, nth));
        }
        return count == 0 ? "none" : all.toString();
    }

    // ---- unify(), why()

    private static void unifyEnds() {
        about("unify(): empty, if nothing needs another TERM; - with a CLASH or a RING");
        due(unify("x", "x"), "");
        due(unify("a", "a"), "");
        due(unify("g(x,c(y,a))", "g(x,c(y,a))"), "");
        due(unify("a", "b"), "-");
        due(unify("f(x)", "x"), "-");
        due(unify("x", "f(x)"), "-");
        due(unify("g(x,y)", "g(f(y),f(x))"), "-");
        due(unify("x", "a"), "x=a");
        due(unify("a", "w"), "w=a");
        due(unify("x", "w"), "x=w");
        due(unify("w", "x"), "w=x");
        about("unify(): all six NAMES, by NAMES");
        due(unify("g(w,g(v,g(u,g(z,g(y,x)))))", "g(a,g(b,g(a,g(b,g(a,b)))))"), "x=b;y=a;z=b;u=a;v=b;w=a");
        due(unify("g(x,g(y,g(z,g(u,v))))", "g(y,g(z,g(u,g(v,w))))"), "x=w;y=w;z=w;u=w;v=w");
    }

    /** SIZE 5 + how many f, with three y. */
    private static String threeYs(int count) {
        return fs(count, "g(y,g(y,y))");
    }

    private static String pair(String one, String other) {
        return "g(" + one + "," + other + ")";
    }

    private static void unifyUpToForty() {
        String by = fs(11, "z");
        String forty = threeYs(2).replace("y", by);
        about("unify(): a side of 40 letters; GREAT with 41");
        due(unify(pair("y", "x"), pair(by, threeYs(2))), "x=" + forty + ";y=" + by);
        due(unify(pair("y", "x"), pair(by, threeYs(3))), "!");
        due(unify(pair("y", threeYs(2)), pair(by, "x")), "x=" + forty + ";y=" + by);
        due(unify(pair("y", threeYs(3)), pair(by, "x")), "!");
        due(unify(pair(by, threeYs(2)), pair("y", "x")), "x=" + forty + ";y=" + by);
        due(unify(pair("x", "y"), pair(threeYs(2), by)), "x=" + forty + ";y=" + by);
        due(unify(pair("x", "y"), pair(threeYs(3), by)), "!");
        about("why(): - if it is GREAT");
        due(why(pair("y", "x"), pair(by, threeYs(3))), "-");
        due(why(pair("y", "x"), pair(by, threeYs(2))), "-");
        about("unify(): a CLASH that comes ahead of what would be GREAT, and one behind it");
        due(unify(pair("a", pair("y", "x")), pair("b", pair(by, threeYs(3)))), "-");
        due(why(pair("a", pair("y", "x")), pair("b", pair(by, threeYs(3)))), "clash a b");
        due(unify(pair(pair("y", "x"), "a"), pair(pair(by, threeYs(3)), "b")), "!");
        due(why(pair(pair("y", "x"), "a"), pair(pair(by, threeYs(3)), "b")), "-");
    }

    private static void whyEnds() {
        about("why(): clash, the letters of the left and the right SIGN");
        String[] each = {"a", "b", "f(x)", "g(x,x)", "c(x,x)"};
        String heads = "abfgc";
        for (int i = 0; i < 5; i++) {
            for (int j = 0; j < 5; j++) {
                due(why(each[i], each[j]), i == j ? "-" : "clash " + heads.charAt(i) + " " + heads.charAt(j));
            }
        }
        about("why(): ring and the EQUATION, sides changed where they were");
        due(why("x", "f(x)"), "ring x=f(x)");
        due(why("f(x)", "x"), "ring x=f(x)");
        due(why("g(x,y)", "g(y,c(x,a))"), "ring y=c(y,a)");
        due(why("g(y,w)", "g(f(w),f(y))"), "ring w=f(f(w))");
        about("why(): what comes first of a CLASH and a RING");
        due(why("g(x,a)", "g(f(x),b)"), "ring x=f(x)");
        due(why("g(a,x)", "g(b,f(x))"), "clash a b");
        about("why(): otherwise -");
        due(why("x", "x"), "-");
        due(why("x", "y"), "-");
        due(why("c(a,x)", "c(y,b)"), "-");
        about("why(): on the desk TURNING is not looked for");
        due(why("c(a,b)", "c(b,a)"), "clash a b");
    }

    // ---- CASES

    private static void matches() {
        about("match(): NAMES that have themselves are told; empty without NAMES; - without one");
        due(match("x", "x"), "x=x");
        due(match("w", "w"), "w=w");
        due(match("a", "a"), "");
        due(match("f(a)", "f(a)"), "");
        due(match("a", "b"), "-");
        due(match("a", "x"), "-");
        due(match("f(x)", "x"), "-");
        due(match("x", "f(x)"), "x=f(x)");
        due(match("g(x,y)", "g(y,x)"), "x=y;y=x");
        due(match("g(x,x)", "g(y,x)"), "-");
        due(match("g(x,x)", "g(y,y)"), "x=y");
        due(match("g(w,g(v,g(u,g(z,g(y,x)))))", "g(a,g(v,g(b,g(b,g(a,w)))))"), "x=w;y=a;z=b;u=b;v=v;w=a");
        due(match("c(x,a)", "c(a,b)"), "-");
        due(match("x", fs(24, "x")), "x=" + fs(24, "x"));
        due(match(fs(24, "x"), fs(24, "x")), "x=x");
    }

    private static void casesAndVariants() {
        about("cases(): 0 neither, 1 the other one, 2 the one, 3 VARIANTS");
        due(cases("a", "b", false), 0);
        due(cases("x", "a", false), 1);
        due(cases("a", "x", false), 2);
        due(cases("a", "a", false), 3);
        due(cases("x", "y", false), 3);
        due(cases("x", "x", false), 3);
        due(cases("x", "f(x)", false), 1);
        due(cases("f(x)", "x", false), 2);
        due(cases("g(x,y)", "g(y,x)", false), 3);
        due(cases("g(x,y)", "g(z,z)", false), 1);
        due(cases("g(x,x)", "g(y,z)", false), 2);
        due(cases("g(x,a)", "g(b,x)", false), 0);
        due(cases("c(a,b)", "c(b,a)", false), 0);
        due(cases("c(x,a)", "c(a,x)", false), 0);
    }

    private static void turnedOrNot() {
        about("isTurned(): the same but for which of the PARTS of some c stands first");
        due(isTurned("x", "x"), true);
        due(isTurned("x", "y"), false);
        due(isTurned("a", "a"), true);
        due(isTurned("a", "b"), false);
        due(isTurned("c(a,b)", "c(a,b)"), true);
        due(isTurned("c(a,b)", "c(b,a)"), true);
        due(isTurned("g(a,b)", "g(b,a)"), false);
        due(isTurned("c(a,a)", "c(b,a)"), false);
        due(isTurned("c(a,b)", "g(b,a)"), false);
        due(isTurned("f(c(x,y))", "f(c(y,x))"), true);
        due(isTurned("g(c(x,y),a)", "g(c(y,x),b)"), false);
        due(isTurned("c(c(a,b),c(x,y))", "c(c(y,x),c(b,a))"), true);
        due(isTurned("c(c(a,b),c(x,y))", "c(c(y,b),c(x,a))"), false);
        due(isTurned("c(c(a,x),y)", "c(a,c(x,y))"), false);
        due(isTurned("c(g(a,b),c(b,c(x,f(c(a,y)))))", "c(c(c(f(c(y,a)),x),b),g(a,b))"), true);
        due(isTurned("c(g(a,b),c(b,c(x,f(c(a,y)))))", "c(c(c(f(c(y,a)),x),b),g(b,a))"), false);
        due(isTurned("c(c(x,y),c(x,y))", "c(c(y,x),c(x,y))"), true);
        due(isTurned("c(c(x,y),c(x,y))", "c(c(y,x),c(x,x))"), false);
    }

    private static void turnedCases() {
        about("cases(): by TURNING likewise");
        due(cases("c(a,b)", "c(b,a)", true), 3);
        due(cases("c(x,a)", "c(a,x)", true), 3);
        due(cases("c(x,a)", "c(a,b)", true), 1);
        due(cases("c(a,b)", "c(x,a)", true), 2);
        due(cases("g(x,a)", "g(a,x)", true), 0);
        due(cases("a", "b", true), 0);
        due(cases("x", "x", true), 3);
        due(cases("x", "c(x,x)", true), 1);
        about("cases(): by the same TERM for each place of a NAME, alike by TURNING");
        due(cases("g(x,x)", "g(c(a,b),c(b,a))", true), 1);
        due(cases("g(x,x)", "g(c(a,b),c(a,a))", true), 0);
        due(cases("c(x,c(x,y))", "c(c(b,a),a)", true), 1);
        due(cases("c(x,c(x,y))", "c(c(b,b),a)", true), 0);
        due(cases("c(c(x,y),c(x,z))", "c(c(a,b),c(b,b))", true), 1);
        due(cases("c(c(x,x),c(x,z))", "c(c(a,b),c(b,b))", true), 1);
        due(cases("c(c(x,x),c(y,y))", "c(c(a,b),c(b,b))", true), 0);
        due(cases("g(c(x,y),c(x,f(y)))", "g(c(a,b),c(b,f(a)))", true), 1);
        due(cases("g(c(x,y),c(x,f(y)))", "g(c(a,b),c(f(b),f(a)))", true), 0);
        due(cases("g(c(x,y),f(x))", "g(c(a,b),f(b))", true), 1);
        due(cases("g(c(x,y),f(x))", "g(c(a,b),f(c(a,b)))", true), 0);
        due(cases("g(x,f(x))", "g(f(a),f(f(a)))", true), 1);
        due(cases("g(x,c(x,f(x)))", "g(c(a,b),c(f(c(b,a)),c(b,a)))", true), 1);
        due(cases("g(x,c(x,f(x)))", "g(c(a,b),c(f(c(b,b)),c(b,a)))", true), 0);
    }

    // ---- ENDLESS

    private static void endless() {
        about("isEndless(): a RING is no hindrance, unlike SIGNS in one class are");
        due(isEndless("a", "a"), true);
        due(isEndless("a", "b"), false);
        due(isEndless("x", "x"), true);
        due(isEndless("x", "f(x)"), true);
        due(isEndless("f(x)", "x"), true);
        due(isEndless("f(x)", "f(f(x))"), true);
        due(isEndless("f(x)", "g(x,x)"), false);
        due(isEndless("g(x,y)", "g(f(y),f(x))"), true);
        due(isEndless("g(x,y)", "g(f(y),g(x,x))"), true);
        due(isEndless("g(x,g(x,y))", "g(f(y),g(g(x,x),y))"), false);
        due(isEndless("g(g(x,y),x)", "g(g(f(y),f(x)),y)"), true);
        due(isEndless("g(g(x,y),x)", "g(g(f(y),c(x,x)),y)"), false);
        due(isEndless("g(x,x)", "g(f(x),f(f(f(x))))"), true);
        due(isEndless("g(x,x)", "g(f(x),f(f(g(x,a))))"), false);
        due(isEndless("g(x,g(y,g(x,y)))", "g(a,g(b,g(z,z)))"), false);
        due(isEndless("g(x,g(y,g(x,y)))", "g(a,g(a,g(z,z)))"), true);
        about("isEndless(): on either PART, first or second");
        due(isEndless("g(a,x)", "g(b,x)"), false);
        due(isEndless("g(x,a)", "g(x,b)"), false);
        due(isEndless("c(a,b)", "c(b,a)"), false);
        due(isEndless(fs(20, "x"), fs(19, "x")), true);
        due(isEndless(fs(19, "x"), fs(20, "a")), true);
        due(isEndless(fs(20, "x"), fs(19, "a")), false);
        due(isEndless(fs(19, "a"), fs(20, "x")), false);
    }

    // ---- WAYS by TURNING

    private static void rowsUpTo24() {
        about("ways(): 24 rows are looked at to their end, the last one SOLVED");
        String three = "c(c(w,a),v)";
        String threeMet = "c(b,c(a,a))";
        due(ways(three, threeMet), "v=b;w=a");
        due(ways(pair(EIGHT, three), pair(EIGHT_MET, threeMet)).split(" \\| ").length, 4);
        about("ways(): 24 rows, the last one a RING");
        String ring = "c(w,c(v,a))";
        String ringMet = "c(b,c(w,a))";
        due(ways(ring, ringMet), "v=b;w=b");
        due(ways(pair(EIGHT, ring), pair(EIGHT_MET, ringMet)), "x=a;y=b;z=a;u=b;v=b;w=b | x=a;y=b;z=b;u=a;v=b;w=b"
                + " | x=b;y=a;z=a;u=b;v=b;w=b | x=b;y=a;z=b;u=a;v=b;w=b");
        about("ways(): 24 rows, all a CLASH");
        due(ways(pair(EIGHT, "c(a,c(a,b))"), pair(EIGHT_MET, "c(a,c(a,a))")), "none");
    }

    private static void rowsFrom25() {
        about("ways(): TOO MANY with 25 rows, the last one SOLVED");
        String left = pair(EIGHT, "c(c(w,a),b)");
        String right = pair(EIGHT_MET, "c(b,c(a,a))");
        due(ways(left, right).split(" \\| ").length, 4);
        due(ways("c(" + left + ",x)", "c(" + right + ",v)"), "!");
        due(ways("c(" + left + ",x)", "c(v," + right + ")"), "!");
        about("ways(): TOO MANY with 25 rows, the last one a RING");
        String ring = pair(EIGHT, "c(w,c(v,a))");
        String ringMet = pair(EIGHT_MET, "c(b,c(w,a))");
        due(ways("c(" + ring + ",b)", "c(" + ringMet + ",w)"), "!");
        about("ways(): TOO MANY with 25 rows, the last one a CLASH");
        String clash = pair(EIGHT, "c(a,c(a,b))");
        String clashMet = pair(EIGHT_MET, "c(a,c(a,a))");
        due(ways("c(" + clash + ",b)", "c(" + clashMet + ",a)"), "!");
        about("ways(): TOO MANY with 25 rows, the first one a CLASH, and many more");
        due(ways("c(" + clash + ",b)", "c(a," + clashMet + ")"), "!");
        due(ways(pair(EIGHT, "c(c(v,w),c(v,w))"), pair(EIGHT_MET, "c(c(a,b),c(b,b))")), "!");
        about("ways(): one row less for each that goes by RULE 1");
        due(ways(pair(EIGHT, "c(v,w)"), pair(EIGHT_MET, "c(a,b)")).split(" \\| ").length, 8);
    }

    private static void greatRows() {
        String by = fs(11, "z");
        String forty = threeYs(2).replace("y", by);
        about("ways(): TOO MANY, if one row is GREAT, from 41 letters on");
        due(ways(pair("y", "x"), pair(by, threeYs(2))), "x=" + forty + ";y=" + by);
        due(ways(pair("y", "x"), pair(by, threeYs(3))), "!");
        about("ways(): TOO MANY, if the first row is GREAT, though the second one would be SOLVED");
        due(ways("c(g(y,x),a)", "c(g(" + by + "," + threeYs(3) + "),w)"), "!");
        about("ways(): TOO MANY, if the second row is GREAT, though the first one was SOLVED");
        due(ways("c(g(y,x),u)", "c(w,g(" + by + "," + threeYs(3) + "))"), "!");
        due(ways("c(g(y,x),u)", "c(w,g(" + by + "," + threeYs(2) + "))"),
                "u=g(" + by + "," + threeYs(2) + ");w=g(y,x)" + " | x=" + forty + ";y=" + by + ";u=w");
        about("ways(): a row that clashes ahead of RULE 6 is not GREAT");
        due(ways("c(g(a,g(y,x)),u)", "c(w,g(b,g(" + by + "," + threeYs(3) + ")))").startsWith("u="), true);
    }

    private static void firstRuleByTurning() {
        about("WAYS: RULE 1 also if the sides are alike by TURNING");
        due(ways("c(a,b)", "c(b,a)"), "");
        due(ways("c(x,y)", "c(y,x)"), "");
        due(ways("g(c(a,x),y)", "g(c(x,a),b)"), "y=b");
        due(ways("g(x,x)", "g(c(a,b),c(b,a))"), "x=c(a,b)");
        due(ways("g(a,b)", "g(b,a)"), "none");
        about("WAYS: RULE 1 goes once for many rows");
        String many = "c(c(c(a,b),c(a,b)),c(c(a,b),c(a,b)))";
        due(ways(many, many.replace("c(a,b)", "c(b,a)")), "");
    }

    private static void leftOut() {
        about("WAYS: none, one, as they were found");
        due(ways("a", "b"), "none");
        due(ways("x", "f(x)"), "none");
        due(ways("a", "a"), "");
        due(ways("x", "a"), "x=a");
        due(ways("c(x,y)", "c(a,b)"), "x=a;y=b | x=b;y=a");
        due(ways("c(x,y)", "c(b,a)"), "x=b;y=a | x=a;y=b");
        about("WAYS: one that is a CASE by TURNING of another one is left out, wherever that was found");
        due(ways("c(x,a)", "c(y,a)"), "x=y");
        due(ways("c(x,a)", "c(a,y)"), "x=y");
        due(ways("c(a,x)", "c(a,y)"), "x=y");
        about("WAYS: of two that are each a CASE of the other one, the one found ahead stays");
        due(ways("c(x,y)", "c(c(a,b),c(b,a))"), "x=c(a,b);y=c(b,a)");
        due(ways("c(x,y)", "c(z,u)"), "x=z;y=u | x=u;y=z");
        due(ways("c(f(x),f(y))", "c(z,z)"), "y=x;z=f(x)");
        about("WAYS: for all these NAMES at once, by the same FILLING");
        due(ways("g(c(x,y),c(x,z))", "g(c(a,b),c(a,b))"), "x=a;y=b;z=b | x=b;y=a;z=a");
        due(ways("c(c(z,u),c(u,v))", "c(c(w,c(a,g(x,x))),w)"), "z=c(c(a,g(x,x)),v);u=c(a,g(x,x));w=c(c(a,g(x,x)),v)"
                + " | u=c(a,g(x,x));v=c(z,c(a,g(x,x)));w=c(z,c(a,g(x,x)))");
        about("WAYS: a NAME that stands in one TERM alone counts, too");
        due(ways("c(x,f(y))", "c(f(a),z)"), "x=f(a);z=f(y) | x=z;y=a");
        about("WAYS: each NAME counts, the first one and the last one: the WAY that leaves it as it is stays");
        for (int name = 0; name < 6; name++) {
            char one = "xyzuvw".charAt(name);
            char other = "xyzuvw".charAt((name + 1) % 6);
            due(ways("c(" + one + "," + other + ")", "c(a," + one + ")"), other + "=a");
        }
    }

    private static void numbersOfWays() {
        about("way(): a number from 0 up to how many there are");
        Matchmakingdesk desk = new Matchmakingdesk();
        int one = of(desk, "c(x,y)");
        int other = of(desk, "c(a,b)");
        due(desk.way(one, other, 0), "x=a;y=b");
        due(desk.way(one, other, 1), "x=b;y=a");
        for (int nth : new int[] {Integer.MIN_VALUE, -1, 2, 24, Integer.MAX_VALUE}) {
            refused(desk, ELEMENT, () -> desk.way(one, other, nth));
            refused(desk, BOUNDS, () -> desk.way(-1, other, nth));
            refused(desk, BOUNDS, () -> desk.way(one, desk.house(0), nth));
        }
        refused(desk, ELEMENT, () -> desk.way(0, 1, 0));
        due(desk.way(0, 0, 0), "");
        refused(desk, ELEMENT, () -> desk.way(0, 0, 1));
    }

    // ---- COMMON

    private static String common(String one, String other) {
        Matchmakingdesk desk = new Matchmakingdesk();
        return desk.text(desk.common(of(desk, one), of(desk, other)));
    }

    private static void inCommon() {
        about("COMMON: a and b as they are, otherwise a NAME");
        due(common("a", "a"), "a");
        due(common("b", "b"), "b");
        due(common("a", "b"), "x");
        due(common("w", "w"), "x");
        due(common("x", "f(x)"), "x");
        due(common("f(x)", "g(x,x)"), "x");
        due(common("g(x,x)", "c(x,x)"), "x");
        due(common("f(a)", "f(b)"), "f(x)");
        due(common("f(a)", "f(a)"), "f(a)");
        about("COMMON: the same NAME for the same pair, another one the other way round");
        due(common("g(a,a)", "g(b,b)"), "g(x,x)");
        due(common("g(a,b)", "g(b,a)"), "g(x,y)");
        due(common("g(a,g(b,a))", "g(b,g(a,b))"), "g(x,g(y,x))");
        due(common("g(u,v)", "g(u,v)"), "g(x,y)");
        due(common("g(u,u)", "g(u,u)"), "g(x,x)");
        due(common("g(u,u)", "g(u,v)"), "g(x,y)");
        due(common("g(u,v)", "g(v,v)"), "g(x,y)");
        about("COMMON: as they are met in ORDER");
        due(common("g(c(w,v),f(u))", "g(c(w,v),f(u))"), "g(c(x,y),f(z))");
        due(common("c(a,b)", "c(b,a)"), "c(x,y)");
    }

    /** g(.,g(.,..)) of these letters. */
    private static String list(String letters) {
        return letters.length() == 1 ? letters : "g(" + letters.charAt(0) + "," + list(letters.substring(1)) + ")";
    }

    private static void sixNamesInCommon() {
        about("COMMON: with six there is one, with more there is none");
        due(common(list("xyzuvw"), list("xyzuvw")), list("xyzuvw"));
        due(common(list("wvuzyx"), list("wvuzyx")), list("xyzuvw"));
        due(common(list("xyzuvwx"), list("xyzuvwx")), list("xyzuvwx"));
        due(common(list("xyzuvwb"), list("xyzuvwb")), list("xyzuvwb"));
        Matchmakingdesk desk = new Matchmakingdesk();
        int one = of(desk, list("xyzuvwa"));
        int other = of(desk, list("xyzuvwb"));
        nine(desk, () -> desk.common(one, other));
        nine(desk, () -> desk.common(other, one));
        Matchmakingdesk six = new Matchmakingdesk();
        due(six.text(six.common(of(six, list("xyzuvaa")), of(six, list("xyzuvbb")))), list("xyzuvww"));
        about("commonOfAll(): with more than six of the first two there is none, whatever comes behind");
        desk.lay(one);
        due(desk.text(desk.commonOfAll()), list("xyzuvwa"));
        desk.lay(other);
        nine(desk, desk::commonOfAll);
        desk.lay(2);
        nine(desk, desk::commonOfAll);
        desk.lift(1);
        due(desk.commonOfAll(), 2);
    }

    private static void noSuchTerms() {
        about("there is no such TERM: below 0, from their count on");
        for (Matchmakingdesk desk : new Matchmakingdesk[] {new Matchmakingdesk(), crowded(48)}) {
            for (int far : new int[] {Integer.MIN_VALUE, -9, -1, desk.house(0), 48, 54, Integer.MAX_VALUE}) {
                for (int side = 0; side < 2; side++) {
                    int one = side == 0 ? far : 0;
                    int other = side == 0 ? 0 : far;
                    refused(desk, BOUNDS, () -> desk.unify(one, other));
                    refused(desk, BOUNDS, () -> desk.why(one, other));
                    refused(desk, BOUNDS, () -> desk.match(one, other));
                    refused(desk, BOUNDS, () -> desk.cases(one, other, false));
                    refused(desk, BOUNDS, () -> desk.cases(one, other, true));
                    refused(desk, BOUNDS, () -> desk.isTurned(one, other));
                    refused(desk, BOUNDS, () -> desk.isEndless(one, other));
                    refused(desk, BOUNDS, () -> desk.ways(one, other));
                    refused(desk, BOUNDS, () -> desk.way(one, other, 0));
                    refused(desk, BOUNDS, () -> desk.common(one, other));
                }
            }
            int last = desk.house(0) - 1;
            due(desk.unify(last, last), "");
            due(desk.why(last, last), "-");
            due(desk.match(last, last), last == 7 ? "w=w" : "z=z;w=w");
            due(desk.cases(last, last, true), 3);
            due(desk.isTurned(last, last), true);
            due(desk.isEndless(last, last), true);
            due(desk.ways(last, last), 1);
            due(desk.way(last, last, 0), "");
            due(desk.common(last, last), last == 7 ? 2 : of(desk, "c(x,y)"));
        }
    }

    /** What is asked of two TERMS, by numbers from 0. */
    private static Object asked(Matchmakingdesk desk, int what, int one, int other) {
        switch (what) {
            case 0: return desk.unify(one, other);
            case 1: return desk.why(one, other);
            case 2: return desk.match(one, other);
            case 3: return desk.cases(one, other, false);
            case 4: return desk.cases(one, other, true);
            case 5: return desk.isTurned(one, other);
            case 6: return desk.isEndless(one, other);
            case 7: return desk.ways(one, other);
            default: return answerOf(() -> desk.way(one, other, 0));
        }
    }

    private static void oneCallLeavesNothing() {
        about("what one call answers does not hang on those ahead of it");
        String by = fs(11, "z");
        String[] texts = {"c(x,y)", "c(a,b)", "x", "a", "g(y,x)", "g(" + by + "," + threeYs(3) + ")", "c(x,f(x))", "c(c(z,a),x)",
            EIGHT, EIGHT_MET};
        for (int what = 0; what <= 8; what++) {
            Matchmakingdesk upward = new Matchmakingdesk();
            Matchmakingdesk downward = new Matchmakingdesk();
            int[] numbers = new int[texts.length];
            for (int i = 0; i < texts.length; i++) {
                numbers[i] = of(upward, texts[i]);
                due(of(downward, texts[i]), numbers[i]);
            }
            for (int pair = 0; pair < 100; pair++) {
                int back = 99 - pair;
                due(asked(upward, what, numbers[pair / 10], numbers[pair % 10]), askedAnew(what, texts[pair / 10], texts[pair % 10]));
                due(asked(downward, what, numbers[back % 10], numbers[back / 10]), askedAnew(what, texts[back % 10], texts[back / 10]));
            }
        }
    }

    private static Object askedAnew(int what, String one, String other) {
        Matchmakingdesk fresh = new Matchmakingdesk();
        return asked(fresh, what, of(fresh, one), of(fresh, other));
    }
}
