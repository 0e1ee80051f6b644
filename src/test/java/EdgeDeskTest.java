import java.math.BigInteger;
import java.util.function.Function;
import java.util.function.Supplier;

/** The first and the last of what the document says of the SHELF and the desk, and of calls that are refused. */
public final class EdgeDeskTest extends Checks {

    public static void main(String[] args) {
        tenOnTheShelf();
        placesOnTheShelf();
        liftedMoveUp();
        asked();
        askedOfGreat();
        commonOfTheShelf();
        eachOfNineIsUndone();
        onlyNineAreUndone();
        lastEight();
        undoneThenDoneAnew();
        undoneStates();
        termsStay();
        counts();
        sound();
        digestOfANewDesk();
        digestWrapsAround();
        whichOfSeveral();
        refusedChangesNothing();
        fiveHundredAndTwelve();
        end("the desk keeps its edges");
    }

    // ---- the shelf

    private static void tenOnTheShelf() {
        about("lay(): at most 10 TERMS, some perhaps twice");
        Matchmakingdesk desk = new Matchmakingdesk();
        due(desk.house(5), 0);
        for (int count = 1; count <= 10; count++) {
            due(desk.lay(count % 2 == 0 ? 7 : 0), count);
        }
        due(desk.house(5), 10);
        refused(desk, STATE, () -> desk.lay(0));
        refused(desk, STATE, () -> desk.lay(7));
        for (int far : new int[] {Integer.MIN_VALUE, -1, 8, Integer.MAX_VALUE}) {
            refused(desk, BOUNDS, () -> desk.lay(far));
        }
        due(desk.lift(9), 7);
        due(desk.lay(4), 10);
        refused(desk, STATE, () -> desk.lay(4));
        due(desk.shelf(9), 4);
        desk.undo();
        due(desk.lay(5), 10);
        Matchmakingdesk last = crowded(48);
        for (int far : new int[] {Integer.MIN_VALUE, -1, 48, Integer.MAX_VALUE}) {
            refused(last, BOUNDS, () -> last.lay(far));
        }
        due(last.lay(47), 1);
    }

    private static void placesOnTheShelf() {
        about("lift(), shelf(): there is such a place");
        Matchmakingdesk desk = new Matchmakingdesk();
        for (int laid = 0; laid <= 10; laid++) {
            for (int far : new int[] {Integer.MIN_VALUE, -1, laid, laid + 1, 10, Integer.MAX_VALUE}) {
                refused(desk, BOUNDS, () -> desk.shelf(far));
                refused(desk, BOUNDS, () -> desk.lift(far));
            }
            for (int place = 0; place < laid; place++) {
                due(desk.shelf(place), place % 8);
            }
            if (laid < 10) {
                desk.lay(laid % 8);
            }
        }
    }

    private static void liftedMoveUp() {
        about("lift(): those behind it move up");
        int[][] left = {{1, 2, 3, 4, 5, 6, 7, 0, 1}, {0, 1, 2, 3, 5, 6, 7, 0, 1}, {0, 1, 2, 3, 4, 5, 6, 7, 0}};
        int[] places = {0, 4, 9};
        for (int i = 0; i < 3; i++) {
            Matchmakingdesk desk = new Matchmakingdesk();
            for (int laid = 0; laid < 10; laid++) {
                desk.lay(laid % 8);
            }
            due(desk.lift(places[i]), places[i] % 8);
            due(desk.house(5), 9);
            for (int place = 0; place < 9; place++) {
                due(desk.shelf(place), left[i][place]);
            }
            refused(desk, BOUNDS, () -> desk.shelf(9));
        }
        about("lift(): the only one");
        Matchmakingdesk one = new Matchmakingdesk();
        one.lay(6);
        due(one.lift(0), 6);
        due(one.house(5), 0);
        refused(one, BOUNDS, () -> one.lift(0));
        refused(one, ELEMENT, one::commonOfAll);
    }

    private static void asked() {
        about("ask(): the set of the places, none to all ten");
        Matchmakingdesk desk = new Matchmakingdesk();
        for (int what = 0; what <= 4; what++) {
            due(desk.ask(7, what), 0);
        }
        for (int laid = 0; laid < 10; laid++) {
            desk.lay(7);
        }
        for (int what = 0; what <= 4; what++) {
            due(desk.ask(7, what), 1023);
        }
        about("ask(): the first place, the last place");
        Matchmakingdesk ends = new Matchmakingdesk();
        ends.lay(0);
        for (int laid = 1; laid < 9; laid++) {
            ends.lay(1);
        }
        ends.lay(of(ends, "f(x)"));
        int fa = of(ends, "f(a)");
        for (int what = 0; what <= 4; what++) {
            due(ends.ask(0, what), 1);
            due(ends.ask(fa, what), what == 0 || what == 2 ? 512 : 0);
            due(ends.ask(of(ends, "f(y)"), what), what == 4 ? 0 : 512);
            due(ends.ask(2, what), what <= 1 ? 1023 : 0);
        }
        about("ask(): VARIANTS are CASES either way");
        Matchmakingdesk cases = new Matchmakingdesk();
        String[] laid = {"g(x,y)", "g(y,x)", "g(x,x)", "x", "g(a,b)", "c(x,y)"};
        for (String each : laid) {
            cases.lay(of(cases, each));
        }
        int gzw = of(cases, "g(z,w)");
        due(cases.ask(gzw, 0), 31);
        due(cases.ask(gzw, 1), 1 + 2 + 4 + 16);
        due(cases.ask(gzw, 2), 1 + 2 + 8);
        due(cases.ask(gzw, 3), 1 + 2);
        due(cases.ask(gzw, 4), 0);
        due(cases.ask(of(cases, "c(y,x)"), 4), 32);
        about("ask(): what is 0 to 4");
        for (int what : new int[] {Integer.MIN_VALUE, -1, 5, Integer.MAX_VALUE}) {
            refused(cases, ARGUMENT, () -> cases.ask(0, what));
            refused(cases, BOUNDS, () -> cases.ask(-1, what));
            refused(cases, BOUNDS, () -> cases.ask(cases.house(0), what));
        }
        for (int far : new int[] {Integer.MIN_VALUE, -1, cases.house(0), 48, 53, Integer.MAX_VALUE}) {
            for (int what = 0; what <= 4; what++) {
                int each = what;
                refused(cases, BOUNDS, () -> cases.ask(far, each));
            }
        }
    }

    private static void askedOfGreat() {
        about("ask(): those that are GREAT not, from 41 letters on");
        Matchmakingdesk desk = new Matchmakingdesk();
        desk.lay(of(desk, "g(" + fs(11, "x") + ",z)"));
        int just = of(desk, "g(y,f(f(g(y,g(y,y)))))");
        int over = of(desk, "g(y,f(f(f(g(y,g(y,y))))))");
        due(desk.ask(just, 0), 1);
        due(desk.ask(over, 0), 0);
        due(desk.unify(just, desk.shelf(0)), "y=" + fs(11, "x") + ";z=" + "f(f(g(y,g(y,y))))".replace("y", fs(11, "x")));
        due(desk.unify(over, desk.shelf(0)), "!");
        about("ask(): the NAMES kept apart");
        Matchmakingdesk apart = new Matchmakingdesk();
        apart.lay(of(apart, "f(x)"));
        due(apart.unify(2, apart.shelf(0)), "-");
        due(apart.ask(2, 0), 1);
        due(apart.ask(2, 1), 1);
        due(apart.ask(2, 2), 0);
        for (int name = 2; name < 8; name++) {
            Matchmakingdesk each = new Matchmakingdesk();
            each.lay(each.term(2, name, 0));
            each.lay(each.term(3, name, name));
            each.lay(each.term(3, name, each.shelf(0)));
            each.lay(each.term(4, name, 9 - name));
            due(each.ask(name, 0), 15);
            due(each.ask(of(each, "g(a,b)"), 0), 0);
            due(each.ask(each.term(3, 9 - name, 9 - name), 0), 2);
            due(each.ask(each.term(4, 9 - name, name), 0), 8);
        }
        about("ask(): twelve NAMES, six of each");
        Matchmakingdesk twelve = new Matchmakingdesk();
        twelve.lay(of(twelve, "g(x,g(y,g(z,g(u,g(v,w)))))"));
        twelve.lay(of(twelve, "g(w,g(v,g(u,g(z,g(y,x)))))"));
        twelve.lay(of(twelve, "g(x,g(x,g(x,g(x,g(x,f(x))))))"));
        due(twelve.ask(twelve.shelf(0), 0), 7);
        due(twelve.ask(twelve.shelf(1), 0), 7);
        due(twelve.ask(of(twelve, "g(x,g(x,g(x,g(x,g(x,x)))))"), 0), 3);
    }

    private static void commonOfTheShelf() {
        about("commonOfAll(): nothing lies there");
        Matchmakingdesk desk = new Matchmakingdesk();
        refused(desk, ELEMENT, desk::commonOfAll);
        about("commonOfAll(): with one that with itself");
        desk.lay(of(desk, "g(w,c(w,u))"));
        due(desk.text(desk.commonOfAll()), "g(x,c(x,y))");
        about("commonOfAll(): of the first two, then that with the third one, up to ten");
        desk.lay(of(desk, "g(a,c(a,b))"));
        due(desk.text(desk.commonOfAll()), "g(x,c(x,y))");
        desk.lay(of(desk, "g(a,c(a,a))"));
        due(desk.text(desk.commonOfAll()), "g(x,c(x,y))");
        desk.lay(of(desk, "g(b,c(a,a))"));
        due(desk.text(desk.commonOfAll()), "g(x,c(y,z))");
        for (int laid = 5; laid <= 9; laid++) {
            desk.lay(of(desk, "g(b,c(a,a))"));
        }
        due(desk.text(desk.commonOfAll()), "g(x,c(y,z))");
        desk.lay(of(desk, "g(a,b)"));
        due(desk.house(5), 10);
        due(desk.text(desk.commonOfAll()), "g(x,y)");
        desk.lift(9);
        desk.lay(of(desk, "f(a)"));
        due(desk.commonOfAll(), 2);
        refused(desk, STATE, () -> desk.lay(0));
    }

    // ---- undo

    /** The call, then undo(): all is as it was ahead of it. */
    private static void undone(Matchmakingdesk desk, Object answer, Function<Matchmakingdesk, Object> call) {
        long before = desk.digest();
        int count = desk.house(6);
        due(call.apply(desk), answer);
        due(desk.house(6), count + 1);
        due(desk.undo(), count);
        due(desk.digest(), before);
    }

    private static void eachOfNineIsUndone() {
        Matchmakingdesk desk = new Matchmakingdesk();
        desk.fill(0, 3);
        desk.equal(of(desk, "g(x,y)"), of(desk, "g(a,b)"));
        desk.unlike(2, 3);
        desk.lay(4);
        desk.lay(5);
        about("undo(): fill()");
        undone(desk, 1, d -> d.fill(0, 0));
        undone(desk, 2, d -> d.fill(1, 0));
        about("undo(): unfill()");
        undone(desk, 0, d -> d.unfill(0));
        about("undo(): equal()");
        undone(desk, 2, d -> d.equal(0, 1));
        about("undo(): unlike()");
        undone(desk, 2, d -> d.unlike(0, 1));
        about("undo(): step()");
        undone(desk, 3, Matchmakingdesk::step);
        about("undo(): steps()");
        undone(desk, 1, d -> d.steps(20));
        undone(desk, 1, d -> d.steps(1));
        about("undo(): clear()");
        undone(desk, 1, Matchmakingdesk::clear);
        due(desk.house(3), 1);
        about("undo(): lay()");
        undone(desk, 3, d -> d.lay(6));
        about("undo(): lift()");
        undone(desk, 4, d -> d.lift(0));
        undone(desk, 5, d -> d.lift(1));
        about("undo(): what is ready to be undone stays that");
        due(desk.house(6), 5);
        due(desk.undo(), 4);
        due(desk.house(5), 1);
    }

    private static void onlyNineAreUndone() {
        about("undo(): other calls are not undone");
        Matchmakingdesk desk = new Matchmakingdesk();
        desk.lay(3);
        int fx = desk.term(2, 2, 0);
        desk.put(fx, 0, 1);
        desk.once(fx);
        desk.deep(fx);
        desk.common(fx, 0);
        desk.commonOfAll();
        desk.unify(fx, 0);
        desk.ways(fx, fx);
        desk.ask(fx, 0);
        desk.blank();
        desk.knock();
        desk.isSound();
        desk.digest();
        due(desk.house(6), 1);
        due(desk.undo(), 0);
        due(desk.house(5), 0);
        due(desk.house(0), 10);
        due(desk.house(7), 1);
        due(desk.house(8), 1);
        refused(desk, STATE, desk::undo);
    }

    private static void lastEight() {
        about("undo(): the last 8 can be undone");
        for (int calls = 0; calls <= 10; calls++) {
            Matchmakingdesk desk = new Matchmakingdesk();
            for (int i = 0; i < calls; i++) {
                due(desk.lay(i % 8), i + 1);
            }
            int kept = Math.min(calls, 8);
            due(desk.house(6), kept);
            for (int left = kept - 1; left >= 0; left--) {
                due(desk.undo(), left);
                due(desk.house(5), calls - kept + left);
            }
            refused(desk, STATE, desk::undo);
            due(desk.house(6), 0);
        }
        about("undo(): the ninth call ahead stays, of each kind");
        Matchmakingdesk mixed = new Matchmakingdesk();
        mixed.fill(0, 1);
        mixed.unlike(0, 1);
        mixed.equal(0, 1);
        for (int i = 0; i < 8; i++) {
            due(mixed.step(), i == 0 ? 2 : 0);
        }
        for (int left = 7; left >= 0; left--) {
            due(mixed.undo(), left);
            due(mixed.house(4), left == 0 ? 0 : 2);
        }
        refused(mixed, STATE, mixed::undo);
        due(mixed.fills() + row(mixed) + mixed.house(3), "x=ba=b1");
    }

    private static void undoneThenDoneAnew() {
        about("undo(): calls that were undone are gone, later ones come in their place");
        Matchmakingdesk desk = new Matchmakingdesk();
        for (int i = 0; i < 10; i++) {
            desk.lay(i % 8);
        }
        for (int left = 7; left >= 5; left--) {
            due(desk.undo(), left);
        }
        desk.fill(2, 0);
        desk.lift(0);
        due(desk.house(6), 7);
        desk.unlike(1, 1);
        due(desk.house(6), 8);
        desk.equal(2, 2);
        due(desk.house(6), 8);
        due(desk.undo(), 7);
        due(desk.house(2), 0);
        due(desk.undo(), 6);
        due(desk.house(3), 0);
        due(desk.undo(), 5);
        due(desk.shelf(0), 0);
        due(desk.undo(), 4);
        due(desk.fills(), "");
        due(desk.house(5), 7);
        for (int left = 3; left >= 0; left--) {
            due(desk.undo(), left);
            due(desk.house(5), 3 + left);
        }
        refused(desk, STATE, desk::undo);
        about("undo(): again and again, round and round");
        for (int round = 0; round < 20; round++) {
            due(desk.lay(round % 8), 4);
            due(desk.lift(3), round % 8);
            due(desk.undo(), 1);
            due(desk.shelf(3), round % 8);
            due(desk.undo(), 0);
        }
        due(desk.house(5), 3);
    }

    private static void undoneStates() {
        about("undo(): STATE is as ahead of it");
        Matchmakingdesk desk = new Matchmakingdesk();
        desk.equal(2, 0);
        due(desk.step(), 0);
        due(desk.house(4), 1);
        desk.equal(3, 1);
        due(desk.house(4), 0);
        due(desk.undo(), 2);
        due(desk.house(4), 1);
        due(desk.solved(0), "a");
        desk.clear();
        due(desk.house(4), 0);
        due(desk.undo(), 2);
        due(desk.house(4), 1);
        due(desk.undo(), 1);
        due(desk.house(4), 0);
        refused(desk, STATE, () -> desk.solved(0));
        about("undo(): then solved() and stays() are of the row as it was");
        Matchmakingdesk rows = new Matchmakingdesk();
        rows.unlike(3, 1);
        rows.equal(2, 0);
        rows.step();
        rows.equal(3, 1);
        rows.step();
        due(rows.solved(1), "b");
        due(rows.stays(0), 2);
        rows.undo();
        rows.undo();
        due(rows.solved(1), "y");
        rows.equal(3, 0);
        rows.step();
        rows.undo();
        rows.undo();
        due(rows.stays(0), 0);
        about("clear(): then the row starts anew");
        rows.clear();
        due(rows.equal(7, 0), 1);
        due(row(rows), "w=a");
        due(rows.equal(6, 1), 2);
        due(row(rows), "w=a v=b");
        rows.undo();
        rows.undo();
        rows.undo();
        due(row(rows), "x=a");
        about("undo(): a long row is as ahead of it");
        Matchmakingdesk row = new Matchmakingdesk();
        int left = of(row, "g(c(x,f(y)),g(f(f(z)),u))");
        int right = of(row, "g(c(f(w),v),g(f(f(a)),b))");
        for (int i = 0; i < 10; i++) {
            row.equal(left, right);
        }
        String before = row(row);
        due(row.steps(3), 3);
        due(row.house(2), 12);
        String between = row(row);
        row.clear();
        due(row.undo(), 7);
        due(row(row), between);
        due(row.undo(), 6);
        due(row(row), before);
        due(row.house(2), 10);
        about("undo(): sides of 40 letters");
        Matchmakingdesk big = new Matchmakingdesk();
        big.equal(3, of(big, fs(11, "z")));
        big.equal(2, of(big, "f(f(g(y,g(y,y))))"));
        big.steps(20);
        String forty = row(big);
        due(big.house(4), 1);
        big.clear();
        big.equal(0, 0);
        big.undo();
        big.undo();
        due(row(big), forty);
        due(big.solved(0), "f(f(g(y,g(y,y))))".replace("y", fs(11, "z")));
    }

    private static void termsStay() {
        about("undo(): TERMS stay, what was told and knocked, too");
        Matchmakingdesk desk = new Matchmakingdesk();
        desk.fill(0, 1);
        int fx = desk.term(2, 2, 0);
        int fb = desk.once(fx);
        desk.blank();
        desk.knock();
        due(desk.undo(), 0);
        due(desk.house(0), 10);
        due(desk.text(fb), "f(b)");
        due(desk.once(fx), fx);
        due(desk.house(7) + desk.house(8), 2);
    }

    // ---- house(), isSound(), digest()

    private static void counts() {
        about("house(): what is 0 to 8");
        Matchmakingdesk desk = new Matchmakingdesk();
        for (int what : new int[] {Integer.MIN_VALUE, -1, 9, Integer.MAX_VALUE}) {
            refused(desk, ARGUMENT, () -> desk.house(what));
        }
        about("house(): each the most there can be");
        Matchmakingdesk full = fullDesk();
        int[] most = {48, 6, 10, 6, 0, 10, 8, 0, 0};
        for (int what = 0; what <= 8; what++) {
            due(full.house(what), most[what]);
        }
        about("house(): how often -9 was told by blank() alone");
        Matchmakingdesk blanks = crowded(48);
        due(blanks.term(2, 0, 0), -9);
        due(blanks.house(7), 0);
        due(blanks.blank(), -9);
        due(blanks.house(7), 1);
        due(blanks.put(10, 0, 9), -9);
        due(blanks.once(8), 8);
        due(blanks.house(7), 1);
        about("knock(): how often ever, with this");
        for (int count = 1; count <= 3; count++) {
            due(blanks.knock(), count);
            due(blanks.house(8), count);
        }
        due(blanks.house(7), 1);
    }

    private static void sound() {
        about("isSound(): of new and of full desks, of rows at each STATE");
        due(new Matchmakingdesk().isSound(), true);
        due(fullDesk().isSound(), true);
        due(solvedDesk().isSound(), true);
        about("isSound(): of the last four TERMS, with a RING, a CLASH, GREAT, and more than six NAMES in COMMON");
        Matchmakingdesk desk = new Matchmakingdesk();
        String by = fs(11, "z");
        of(desk, "g(y,x)");
        of(desk, "g(" + by + ",f(f(f(g(y,g(y,y))))))");
        of(desk, "g(x,f(x))");
        due(desk.isSound(), true);
        of(desk, "g(y,x)");
        due(desk.isSound(), true);
        Matchmakingdesk names = new Matchmakingdesk();
        int last = 0;
        for (int i = 0; i < 8; i++) {
            last = names.term(3, 2 + i % 6, last);
        }
        due(names.isSound(), true);
    }

    private static long digestOf(int... numbers) {
        BigInteger sum = BigInteger.valueOf(8303);
        for (int number : numbers) {
            sum = sum.multiply(BigInteger.valueOf(31)).add(BigInteger.valueOf(number));
        }
        return sum.longValue();
    }

    private static void digestOfANewDesk() {
        about("digest(): of a new desk, number by number");
        Matchmakingdesk desk = new Matchmakingdesk();
        due(desk.digest(), digestOf(
                8, 0, 0, 0, 0, 0, 0, 0, 0,
                0, 1, 1, 1, 0, -1, -1,
                1, 1, 1, 1, 0, -1, -1,
                -1, 1, 1, 1, 1, -1, -1,
                -1, 1, 1, 1, 2, -1, -1,
                -1, 1, 1, 1, 4, -1, -1,
                -1, 1, 1, 1, 8, -1, -1,
                -1, 1, 1, 1, 16, -1, -1,
                -1, 1, 1, 1, 32, -1, -1,
                '-',
                0, 0, 0, 0, 0,
                1));
        due(desk.digest(), desk.digest());
        about("digest(): with one of each, SOLVED or not");
        desk.term(2, 2, 0);
        desk.fill(0, 8);
        desk.equal(8, 0);
        desk.unlike(2, 2);
        desk.lay(7);
        desk.lay(8);
        int[] open = {
                9, 1, 1, 1, 0, 2, 5, 0, 0,
                0, 1, 1, 1, 0, -1, -1,
                1, 1, 1, 1, 0, -1, -1,
                -1, 1, 1, 1, 1, -1, -1,
                -1, 1, 1, 1, 2, -1, -1,
                -1, 1, 1, 1, 4, -1, -1,
                -1, 1, 1, 1, 8, -1, -1,
                -1, 1, 1, 1, 16, -1, -1,
                -1, 1, 1, 1, 32, -1, -1,
                2, 2, 2, 2, 1, 2, -1,
                'x', '=', 'f', '(', 'x', ')',
                'x',
                'f', '(', 'x', ')', '=', 'a',
                7, 8,
                3, 2, 3, 2, 2,
                1};
        due(desk.digest(), digestOf(open));
        desk.clear();
        desk.unlike(2, 2);
        desk.unlike(0, 1);
        desk.step();
        int[] solved = {
                9, 1, 0, 2, 1, 2, 8, 0, 0,
                0, 1, 1, 1, 0, -1, -1,
                1, 1, 1, 1, 0, -1, -1,
                -1, 1, 1, 1, 1, -1, -1,
                -1, 1, 1, 1, 2, -1, -1,
                -1, 1, 1, 1, 4, -1, -1,
                -1, 1, 1, 1, 8, -1, -1,
                -1, 1, 1, 1, 16, -1, -1,
                -1, 1, 1, 1, 32, -1, -1,
                2, 2, 2, 2, 1, 2, -1,
                'x', '=', 'f', '(', 'x', ')',
                'x',
                2, 1,
                7, 8,
                3, 2, 3, 2, 2,
                1};
        due(desk.house(6), 8);
        due(desk.digest(), digestOf(solved));
    }

    /** The checksum, told by the other methods, without a wrap. */
    private static BigInteger unwrapped(Matchmakingdesk desk) {
        StringBuilder codes = new StringBuilder();
        BigInteger sum = BigInteger.valueOf(8303);
        for (int what = 0; what <= 8; what++) {
            sum = next(sum, desk.house(what));
        }
        for (int term = 0; term < desk.house(0); term++) {
            for (int what = 0; what <= 6; what++) {
                sum = next(sum, desk.ofTerm(term, what));
            }
        }
        codes.append(desk.fills()).append(desk.rings());
        for (int k = 0; k < desk.house(2); k++) {
            codes.append(desk.equation(k));
        }
        for (int i = 0; i < codes.length(); i++) {
            sum = next(sum, codes.charAt(i));
        }
        for (int k = 0; k < desk.house(3) && desk.house(4) == 1; k++) {
            sum = next(sum, desk.stays(k));
        }
        for (int place = 0; place < desk.house(5); place++) {
            sum = next(sum, desk.shelf(place));
        }
        for (int what = 0; what <= 4; what++) {
            sum = next(sum, desk.ask(desk.house(0) - 1, what));
        }
        return next(sum, desk.isSound() ? 1 : 0);
    }

    private static BigInteger next(BigInteger sum, int number) {
        return sum.multiply(BigInteger.valueOf(31)).add(BigInteger.valueOf(number));
    }

    private static void digestWrapsAround() {
        about("digest(): wraps around as a 64-bit integer");
        int below = 0;
        int above = 0;
        for (int knocks = 0; knocks < 12; knocks++) {
            for (Matchmakingdesk desk : new Matchmakingdesk[] {new Matchmakingdesk(), fullDesk(), solvedDesk(), crowded(48)}) {
                for (int i = 0; i < knocks; i++) {
                    desk.knock();
                }
                BigInteger sum = unwrapped(desk);
                due(sum.bitLength() > 64, true);
                due(desk.digest(), sum.longValue());
                below += desk.digest() < 0 ? 1 : 0;
                above += desk.digest() > 0 ? 1 : 0;
            }
        }
        due(below > 0 && above > 0, true);
    }

    // ---- calls that are refused

    /** Nothing more fits on it: TERMS, FILLS, EQUATIONS, pairs, the SHELF. */
    private static Matchmakingdesk fullDesk() {
        Matchmakingdesk desk = crowded(48);
        for (int i = 0; i < 6; i++) {
            desk.fill(i, 47 - i);
            desk.unlike(2 + i, 40 + i);
        }
        for (int i = 0; i < 10; i++) {
            desk.equal(20 + i, 30 - i);
            desk.lay(8 + i);
        }
        return desk;
    }

    // Alike, a side would have 41 letters.
    private static final String OVER = "g(y,f(f(f(g(y,g(y,y))))))";
    private static final String OVER_MET = "g(" + fs(11, "z") + ",x)";

    /** SOLVED, with a pair of each kind, and FILLS that are no RING. */
    private static Matchmakingdesk solvedDesk() {
        Matchmakingdesk desk = new Matchmakingdesk();
        int over = of(desk, OVER);
        of(desk, OVER_MET);
        int fz = of(desk, fs(11, "z"));
        desk.fill(0, over);
        desk.fill(5, 0);
        desk.lay(over);
        desk.lay(fz);
        desk.unlike(over, of(desk, "g(u,x)"));
        desk.unlike(2, 3);
        desk.unlike(2, 2);
        desk.unlike(5, 0);
        desk.equal(5, fz);
        desk.steps(20);
        due(desk.house(4), 1);
        due(desk.stays(0) + 10 * desk.stays(1) + 100 * desk.stays(2) + 1000 * desk.stays(3), -9 + 200 + 1000);
        return desk;
    }

    private static void whichOfSeveral() {
        about("if several exceptions apply, the one that is named first is thrown");
        Matchmakingdesk desk = fullDesk();
        refused(desk, ARGUMENT, () -> desk.term(1, -1, 99));
        refused(desk, ARGUMENT, () -> desk.term(5, 48, -1));
        refused(desk, BOUNDS, () -> desk.put(48, 6, 0));
        refused(desk, BOUNDS, () -> desk.put(0, -1, 48));
        refused(desk, BOUNDS, () -> desk.ofTerm(48, 7));
        refused(desk, BOUNDS, () -> desk.ofTerm(-1, -1));
        refused(desk, ARGUMENT, () -> desk.fill(6, 48));
        refused(desk, ARGUMENT, () -> desk.fill(-1, -1));
        refused(desk, BOUNDS, () -> desk.equal(48, 0));
        refused(desk, BOUNDS, () -> desk.equal(0, -1));
        refused(desk, BOUNDS, () -> desk.unlike(-1, 0));
        refused(desk, BOUNDS, () -> desk.unlike(0, 48));
        refused(desk, ARGUMENT, () -> desk.solved(6));
        refused(desk, ARGUMENT, () -> desk.solved(-1));
        refused(desk, BOUNDS, () -> desk.stays(6));
        refused(desk, BOUNDS, () -> desk.stays(-1));
        refused(desk, BOUNDS, () -> desk.lay(48));
        refused(desk, BOUNDS, () -> desk.lay(-1));
        refused(desk, BOUNDS, () -> desk.ask(48, 5));
        refused(desk, BOUNDS, () -> desk.ask(-1, -1));
        refused(desk, BOUNDS, () -> desk.way(0, 48, 5));
        refused(desk, BOUNDS, () -> desk.way(-1, 0, -1));
        Matchmakingdesk ring = new Matchmakingdesk();
        ring.fill(0, 2);
        refused(ring, BOUNDS, () -> ring.deep(-1));
        refused(ring, BOUNDS, () -> ring.deep(8));
        refused(ring, STATE, () -> ring.deep(7));
    }

    private static final String NO_ARGUMENT = "IllegalArgumentException";
    private static final String NO_BOUNDS = "IndexOutOfBoundsException";
    private static final String NO_STATE = "IllegalStateException";
    private static final String NO_ELEMENT = "NoSuchElementException";

    private static void refusedChangesNothing() {
        about("a call that throws changes nothing: on a new desk");
        Supplier<Matchmakingdesk> fresh = Matchmakingdesk::new;
        wrongOnAny(fresh);
        changesNothing(fresh, NO_ELEMENT, d -> d.unfill(0));
        changesNothing(fresh, NO_STATE, d -> d.solved(0));
        changesNothing(fresh, NO_ELEMENT, Matchmakingdesk::commonOfAll);
        changesNothing(fresh, NO_STATE, Matchmakingdesk::undo);
        about("a call that throws, or tells -9, changes nothing: on a full desk");
        Supplier<Matchmakingdesk> full = EdgeDeskTest::fullDesk;
        wrongOnAny(full);
        changesNothing(full, NO_STATE, d -> d.deep(2));
        changesNothing(full, NO_STATE, d -> d.equal(0, 1));
        changesNothing(full, NO_STATE, d -> d.unlike(0, 1));
        changesNothing(full, NO_STATE, d -> d.solved(0));
        changesNothing(full, NO_STATE, d -> d.stays(0));
        changesNothing(full, NO_STATE, d -> d.lay(0));
        changesNothing(full, -9, d -> d.term(2, 47, 0));
        changesNothing(full, -9, d -> d.put(10, 0, 9));
        changesNothing(full, -9, d -> d.once(10));
        Supplier<Matchmakingdesk> narrow = EdgeDeskTest::narrowDesk;
        about("a call that throws, or tells -9, changes nothing: on one that has room for one TERM");
        wrongOnAny(narrow);
        changesNothing(narrow, -9, d -> d.put(43, 2, 0));
        changesNothing(narrow, -9, d -> d.once(43));
        changesNothing(narrow, -9, d -> d.deep(43));
        changesNothing(narrow, -9, d -> d.common(43, 46));
        changesNothing(narrow, -9, Matchmakingdesk::commonOfAll);
        about("a call that throws, or tells -9, changes nothing: on one that is SOLVED");
        Supplier<Matchmakingdesk> solved = EdgeDeskTest::solvedDesk;
        wrongOnAny(solved);
        changesNothing(solved, -9, d -> d.stays(0));
        changesNothing(solved, -9, d -> d.ways(of(d, OVER), of(d, OVER_MET)));
        changesNothing(solved, "!", d -> d.way(of(d, OVER), of(d, OVER_MET), 0));
        changesNothing(solved, NO_ELEMENT, d -> d.unfill(1));
    }

    /** Room for one TERM, where put(), once(), deep(), common() and commonOfAll() need more. */
    private static Matchmakingdesk narrowDesk() {
        Matchmakingdesk desk = crowded(41);
        int one = of(desk, "g(f(z),f(f(z)))");
        int other = of(desk, "g(f(b),f(f(b)))");
        due(one, 43);
        due(other, 46);
        desk.fill(2, 0);
        desk.lay(one);
        desk.lay(other);
        return desk;
    }

    private static void wrongOnAny(Supplier<Matchmakingdesk> made) {
        changesNothing(made, NO_ARGUMENT, d -> d.term(1, 0, 0));
        changesNothing(made, NO_ARGUMENT, d -> d.term(5, 0, 0));
        changesNothing(made, NO_BOUNDS, d -> d.term(2, -1, 0));
        changesNothing(made, NO_BOUNDS, d -> d.term(3, 0, 48));
        changesNothing(made, NO_BOUNDS, d -> d.put(-1, 0, 0));
        changesNothing(made, NO_BOUNDS, d -> d.put(0, 0, 48));
        changesNothing(made, NO_ARGUMENT, d -> d.put(0, 6, 0));
        changesNothing(made, NO_BOUNDS, d -> d.text(48));
        changesNothing(made, NO_BOUNDS, d -> d.ofTerm(48, 0));
        changesNothing(made, NO_ARGUMENT, d -> d.ofTerm(0, 7));
        changesNothing(made, NO_BOUNDS, d -> d.part(48, 0));
        changesNothing(made, NO_BOUNDS, d -> d.part(0, 1));
        changesNothing(made, NO_ARGUMENT, d -> d.fill(6, 0));
        changesNothing(made, NO_BOUNDS, d -> d.fill(0, 48));
        changesNothing(made, NO_ARGUMENT, d -> d.unfill(6));
        changesNothing(made, NO_BOUNDS, d -> d.once(48));
        changesNothing(made, NO_BOUNDS, d -> d.deep(48));
        changesNothing(made, NO_BOUNDS, d -> d.equal(48, 0));
        changesNothing(made, NO_BOUNDS, d -> d.equal(0, -1));
        changesNothing(made, NO_BOUNDS, d -> d.unlike(48, 0));
        changesNothing(made, NO_BOUNDS, d -> d.unlike(0, -1));
        changesNothing(made, NO_ARGUMENT, d -> d.steps(0));
        changesNothing(made, NO_ARGUMENT, d -> d.steps(21));
        changesNothing(made, NO_BOUNDS, d -> d.equation(d.house(2)));
        changesNothing(made, NO_ARGUMENT, d -> d.solved(6));
        changesNothing(made, NO_BOUNDS, d -> d.stays(d.house(3)));
        changesNothing(made, NO_BOUNDS, d -> d.unify(0, 48));
        changesNothing(made, NO_BOUNDS, d -> d.why(0, 48));
        changesNothing(made, NO_BOUNDS, d -> d.match(0, 48));
        changesNothing(made, NO_BOUNDS, d -> d.cases(0, 48, true));
        changesNothing(made, NO_BOUNDS, d -> d.isTurned(0, 48));
        changesNothing(made, NO_BOUNDS, d -> d.isEndless(0, 48));
        changesNothing(made, NO_BOUNDS, d -> d.ways(0, 48));
        changesNothing(made, NO_BOUNDS, d -> d.way(0, 48, 0));
        changesNothing(made, NO_ELEMENT, d -> d.way(0, 0, 1));
        changesNothing(made, NO_ELEMENT, d -> d.way(0, 1, 0));
        changesNothing(made, NO_BOUNDS, d -> d.common(0, 48));
        changesNothing(made, NO_BOUNDS, d -> d.lay(48));
        changesNothing(made, NO_BOUNDS, d -> d.lift(d.house(5)));
        changesNothing(made, NO_BOUNDS, d -> d.lift(-1));
        changesNothing(made, NO_BOUNDS, d -> d.shelf(d.house(5)));
        changesNothing(made, NO_BOUNDS, d -> d.ask(48, 0));
        changesNothing(made, NO_ARGUMENT, d -> d.ask(0, 5));
        changesNothing(made, NO_ARGUMENT, d -> d.house(9));
    }

    // ---- 512 calls

    private static void fiveHundredAndTwelve() {
        about("an object is used for at most 512 calls: the last one answers as is due");
        Matchmakingdesk knocked = new Matchmakingdesk();
        for (int call = 1; call <= 512; call++) {
            due(knocked.knock(), call);
        }
        Matchmakingdesk blank = new Matchmakingdesk();
        for (int call = 1; call < 512; call++) {
            due(blank.blank(), -9);
        }
        due(blank.house(7), 511);
        Matchmakingdesk laid = new Matchmakingdesk();
        for (int call = 1; call <= 255; call++) {
            due(laid.lay(call % 8), 1);
            due(laid.lift(0), call % 8);
        }
        due(laid.undo(), 7);
        due(laid.shelf(0), 255 % 8);
        Matchmakingdesk made = new Matchmakingdesk();
        int last = 0;
        for (int call = 1; call < 512; call++) {
            int number = made.term(3 + call % 2, call / 2 % 8, last);
            last = number < 0 ? call % 8 : number;
        }
        due(made.house(0), 48);
        about("an object is used for at most 512 calls: dear ones, too");
        Matchmakingdesk dear = fullDesk();
        long first = dear.digest();
        int used = 80;
        for (int call = used; call < 511; call++) {
            dear.ways(40 + call % 8, 47 - call % 8);
        }
        due(dear.digest(), first);
        Matchmakingdesk rows = new Matchmakingdesk();
        int one = of(rows, "c(c(x,y),c(z,u))");
        int other = of(rows, "c(c(a,b),c(a,b))");
        for (int call = 40; call < 512; call++) {
            due(rows.way(one, other, call % 4).length(), 15);
        }
    }
}
