import java.util.function.Function;
import java.util.function.Supplier;

/** The first and the last of what the document says of TERMS and FILLS, sentence by sentence. */
public final class EdgeTermsTest extends Checks {

    public static void main(String[] args) {
        eightAtFirst();
        signs();
        eachOnce();
        atMost48();
        atMost25();
        fullAnswersWhatIsThere();
        partsComeAhead();
        putForEachPlace();
        texts();
        toldOfTerms();
        placesInOrder();
        fillsByNames();
        allAtOnce();
        textOfFills();
        againAndAgain();
        ringsOfFills();
        noSuchTerm();
        end("terms and fills keep their edges");
    }

    private static void eightAtFirst() {
        about("a new desk has eight TERMS, nothing else on it");
        Matchmakingdesk desk = new Matchmakingdesk();
        for (int number = 0; number < 8; number++) {
            due(desk.text(number), "abxyzuvw".substring(number, number + 1));
            due(desk.ofTerm(number, 1), 1);
        }
        refused(desk, BOUNDS, () -> desk.text(8));
        due(desk.house(0), 8);
        for (int what = 1; what <= 8; what++) {
            due(desk.house(what), 0);
        }
        refused(desk, BOUNDS, () -> desk.equation(0));
        refused(desk, BOUNDS, () -> desk.shelf(0));
        refused(desk, STATE, () -> desk.undo());
        refused(desk, BOUNDS, () -> desk.stays(0));
        due(desk.fills() + desk.rings(), "-");
        about("then as they come");
        due(desk.term(2, 7, 0), 8);
        due(desk.term(2, 0, 0), 9);
        refused(desk, BOUNDS, () -> desk.text(10));
    }

    private static void signs() {
        about("term(): sign is 2 to 4");
        Matchmakingdesk desk = new Matchmakingdesk();
        for (int sign : new int[] {Integer.MIN_VALUE, -9, -1, 0, 1, 5, 6, Integer.MAX_VALUE}) {
            refused(desk, ARGUMENT, () -> desk.term(sign, 0, 0));
            refused(desk, ARGUMENT, () -> desk.term(sign, -1, 99));
        }
        due(desk.text(desk.term(2, 0, 1)), "f(a)");
        due(desk.text(desk.term(3, 0, 1)), "g(a,b)");
        due(desk.text(desk.term(4, 0, 1)), "c(a,b)");
        about("term(): its second PART is not looked at with f");
        for (int right : new int[] {Integer.MIN_VALUE, -1, 11, 48, Integer.MAX_VALUE}) {
            due(desk.term(2, 0, right), 8);
            refused(desk, BOUNDS, () -> desk.term(2, right, 0));
            refused(desk, BOUNDS, () -> desk.term(3, 0, right));
            refused(desk, BOUNDS, () -> desk.term(3, right, 0));
            refused(desk, BOUNDS, () -> desk.term(4, 0, right));
            refused(desk, BOUNDS, () -> desk.term(4, right, 0));
        }
        about("term(): the last TERM there is can be a PART");
        due(desk.text(desk.term(4, 10, 10)), "c(c(a,b),c(a,b))");
        due(desk.text(desk.term(3, 0, 11)), "g(a,c(c(a,b),c(a,b)))");
        due(desk.text(desk.term(2, 12, -1)), "f(g(a,c(c(a,b),c(a,b))))");
    }

    private static void eachOnce() {
        about("TERMS are kept, each once");
        Matchmakingdesk desk = new Matchmakingdesk();
        due(desk.term(3, 0, 1), 8);
        due(desk.term(3, 1, 0), 9);
        due(desk.term(4, 0, 1), 10);
        due(desk.term(3, 0, 1), 8);
        due(desk.put(8, 0, 7), 8);
        due(desk.put(9, 3, 0), 9);
        due(desk.once(10), 10);
        due(desk.deep(10), 10);
        due(desk.common(8, 8), 8);
        due(desk.term(2, 2, 0), 11);
        due(desk.put(11, 0, 0), 12);
        due(desk.term(2, 0, 0), 12);
        due(desk.house(0), 13);
    }

    // ---- at most 48, each of a SIZE of at most 25

    private static final String THREE_NEW = "g(f(z),g(f(z),z))";

    /**
     * The call KEEPS three TERMS that are not there yet, on a desk that has already so many for itself:
     * with just the room for them they come, with one place less nothing does.
     */
    private static void keepsThree(int before, Function<Matchmakingdesk, Object> ready, Function<Matchmakingdesk, Object> call) {
        Matchmakingdesk just = crowded(45 - before);
        ready.apply(just);
        due(just.house(0), 45);
        due(call.apply(just), 47);
        due(just.house(0), 48);
        due(just.ofTerm(47, 1), 7);
        Supplier<Matchmakingdesk> narrow = () -> {
            Matchmakingdesk desk = crowded(46 - before);
            ready.apply(desk);
            return desk;
        };
        due(narrow.get().house(0), 46);
        changesNothing(narrow, -9, call);
        changesNothing(narrow, 46, desk -> {
            call.apply(desk);
            return desk.house(0);
        });
    }

    private static void atMost48() {
        about("at most 48 TERMS: term()");
        Matchmakingdesk desk = crowded(47);
        due(desk.term(2, 46, 0), 47);
        due(desk.house(0), 48);
        nine(desk, () -> desk.term(2, 47, 0));
        nine(desk, () -> desk.term(2, 0, 0));
        nine(desk, () -> desk.term(3, 0, 0));
        nine(desk, () -> desk.term(4, 7, 7));
        due(desk.house(0), 48);
        refused(desk, BOUNDS, () -> desk.text(48));
        about("at most 48 TERMS: put()");
        keepsThree(3, d -> of(d, THREE_NEW), d -> d.put(of(d, THREE_NEW), 2, 0));
        about("at most 48 TERMS: once()");
        keepsThree(3, d -> of(d, THREE_NEW) + d.fill(2, 0), d -> d.once(of(d, THREE_NEW)));
        about("at most 48 TERMS: deep()");
        keepsThree(3, d -> of(d, THREE_NEW) + d.fill(2, 3) + d.fill(1, 0), d -> d.deep(of(d, THREE_NEW)));
        about("at most 48 TERMS: common()");
        String one = "g(f(a),g(f(a),a))";
        String other = "g(f(b),g(f(b),b))";
        keepsThree(6, d -> of(d, one) + of(d, other), d -> d.common(of(d, one), of(d, other)));
        about("at most 48 TERMS: commonOfAll()");
        keepsThree(6, d -> d.lay(of(d, one)) + d.lay(of(d, other)), Matchmakingdesk::commonOfAll);
        about("with too many TERMS nothing comes, the PARTS that had room neither");
        Matchmakingdesk last = crowded(44);
        due(of(last, THREE_NEW), 46);
        nine(last, () -> last.put(46, 2, 0));
        due(last.house(0), 47);
        due(last.term(2, 0, 0), 47);
        due(last.house(0), 48);
        nine(last, () -> last.put(46, 2, 0));
        due(last.put(of(last, "f(z)"), 2, 0), 47);
        due(last.house(0), 48);
    }

    private static void atMost25() {
        about("each of a SIZE of at most 25: term()");
        Matchmakingdesk desk = new Matchmakingdesk();
        int twelve = of(desk, fs(11, "x"));
        int thirteen = desk.term(2, twelve, 0);
        due(desk.ofTerm(desk.term(3, twelve, twelve), 1), 25);
        due(desk.ofTerm(desk.term(4, twelve, twelve), 1), 25);
        nine(desk, () -> desk.term(3, twelve, thirteen));
        nine(desk, () -> desk.term(3, thirteen, twelve));
        nine(desk, () -> desk.term(4, thirteen, twelve));
        nine(desk, () -> desk.term(4, thirteen, thirteen));
        int longest = of(desk, fs(24, "x"));
        due(desk.ofTerm(longest, 1), 25);
        nine(desk, () -> desk.term(2, longest, 0));
        nine(desk, () -> desk.term(3, longest, longest));
        about("with a SIZE above 25 nothing comes, its smaller PARTS neither: put()");
        Matchmakingdesk big = new Matchmakingdesk();
        int by = of(big, fs(11, "y"));
        int pair = of(big, "g(x,x)");
        int more = big.term(2, pair, 0);
        nine(big, () -> big.put(more, 0, by));
        due(big.put(pair, 0, by), big.house(0) - 1);
        due(big.ofTerm(big.house(0) - 1, 1), 25);
        nine(big, () -> big.put(more, 0, by));
        about("SIZE above 25: once()");
        Matchmakingdesk filled = new Matchmakingdesk();
        int two = of(filled, "g(x,x)");
        int three = filled.term(2, two, 0);
        filled.fill(0, of(filled, fs(11, "x")));
        nine(filled, () -> filled.once(three));
        due(filled.ofTerm(filled.once(two), 1), 25);
        about("SIZE above 25: deep()");
        Matchmakingdesk again = new Matchmakingdesk();
        int xx = of(again, "g(x,x)");
        int fxx = again.term(2, xx, 0);
        again.fill(0, of(again, fs(10, "y")));
        again.fill(1, of(again, "f(a)"));
        nine(again, () -> again.deep(fxx));
        due(again.ofTerm(again.deep(xx), 1), 25);
        about("SIZE of 25: common()");
        Matchmakingdesk both = new Matchmakingdesk();
        int as = of(both, "g(" + fs(11, "a") + "," + fs(11, "a") + ")");
        int bs = of(both, "g(" + fs(11, "b") + "," + fs(11, "b") + ")");
        due(both.text(both.common(as, bs)), "g(" + fs(11, "x") + "," + fs(11, "x") + ")");
        due(both.ofTerm(both.house(0) - 1, 1), 25);
    }

    private static void fullAnswersWhatIsThere() {
        about("48 TERMS: those that are there are told, others are REFUSED");
        Matchmakingdesk desk = crowded(48);
        int cab = 9;
        due(desk.text(cab), "c(a,b)");
        due(desk.term(4, 0, 1), cab);
        due(desk.put(10, 0, 1), cab);
        due(desk.put(cab, 0, cab), cab);
        nine(desk, () -> desk.put(10, 0, cab));
        desk.fill(0, 1);
        due(desk.once(10), cab);
        due(desk.deep(10), cab);
        desk.fill(0, cab);
        nine(desk, () -> desk.once(10));
        nine(desk, () -> desk.deep(10));
        due(desk.common(8, cab), 10);
        due(desk.text(desk.common(of(desk, "c(x,a)"), of(desk, "c(b,b)"))), "c(x,y)");
        due(desk.common(0, 0), 0);
        desk.lay(8);
        due(desk.commonOfAll(), 8);
        desk.lay(cab);
        due(desk.commonOfAll(), 10);
        desk.lay(of(desk, "c(y,a)"));
        due(desk.commonOfAll(), of(desk, "c(x,y)"));
        about("48 TERMS: commonOfAll() that would be the 49th");
        Matchmakingdesk more = crowded(46);
        more.lay(of(more, "f(a)"));
        more.lay(of(more, "f(b)"));
        due(more.house(0), 48);
        nine(more, () -> more.commonOfAll());
        nine(more, () -> more.common(46, 47));
        more.lay(0);
        due(more.commonOfAll(), 2);
    }

    private static void partsComeAhead() {
        about("PARTS come ahead, the first PART ahead of the second one, it last");
        Matchmakingdesk desk = new Matchmakingdesk();
        int term = of(desk, "g(g(f(z),z),c(f(f(z)),f(z)))");
        int first = desk.house(0);
        due(desk.put(term, 2, 0), first + 4);
        String[] order = {"f(a)", "g(f(a),a)", "f(f(a))", "c(f(f(a)),f(a))", "g(g(f(a),a),c(f(f(a)),f(a)))"};
        for (int i = 0; i < order.length; i++) {
            due(desk.text(first + i), order[i]);
        }
        due(desk.house(0), first + 5);
    }

    private static void putForEachPlace() {
        about("To PUT a TERM for a NAME: for each place of it");
        Matchmakingdesk desk = new Matchmakingdesk();
        int term = of(desk, "g(x,c(g(y,x),x))");
        due(desk.text(desk.put(term, 0, 0)), "g(a,c(g(y,a),a))");
        due(desk.text(desk.put(term, 1, 2)), "g(x,c(g(x,x),x))");
        due(desk.put(term, 2, 0), term);
        due(desk.put(term, 0, 2), term);
        int fx = of(desk, "f(x)");
        due(desk.text(desk.put(fx, 0, fx)), "f(f(x))");
        due(desk.put(2, 0, 7), 7);
        due(desk.put(7, 5, fx), fx);
        due(desk.put(0, 0, 1), 0);
        due(desk.put(1, 1, 0), 1);
        about("put(): name is 0 to 5");
        for (int name : new int[] {Integer.MIN_VALUE, -1, 6, Integer.MAX_VALUE}) {
            refused(desk, ARGUMENT, () -> desk.put(0, name, 0));
            refused(desk, BOUNDS, () -> desk.put(-1, name, 0));
            refused(desk, BOUNDS, () -> desk.put(0, name, -1));
            refused(desk, BOUNDS, () -> desk.put(0, name, desk.house(0)));
        }
    }

    private static void texts() {
        about("text(): without blanks, of one letter up to 25");
        Matchmakingdesk desk = new Matchmakingdesk();
        String full = "g(g(g(a,b),c(x,y)),c(f(z),g(u,c(v,f(g(w,g(f(f(a)),b)))))))";
        due(desk.text(of(desk, full)), full);
        Matchmakingdesk big = new Matchmakingdesk();
        String wide = "c(c(c(c(a,b),c(x,y)),g(z,u)),g(g(v,w),f(g(f(f(f(a))),c(b,b)))))";
        due(big.ofTerm(of(big, wide), 1), 25);
        due(big.text(of(big, wide)), wide);
        due(big.text(of(big, fs(24, "w"))), fs(24, "w"));
    }

    private static void toldOfTerms() {
        about("ofTerm(): NONE, the least and the most");
        Matchmakingdesk desk = new Matchmakingdesk();
        int[][] leaves = {{0, 1, 1, 1, 0, -1, -1}, {1, 1, 1, 1, 0, -1, -1}, {-1, 1, 1, 1, 1, -1, -1}, {-1, 1, 1, 1, 32, -1, -1}};
        int[] which = {0, 1, 2, 7};
        for (int i = 0; i < which.length; i++) {
            for (int what = 0; what <= 6; what++) {
                due(desk.ofTerm(which[i], what), leaves[i][what]);
            }
        }
        int longest = of(desk, fs(24, "y"));
        due(desk.ofTerm(longest, 1), 25);
        due(desk.ofTerm(longest, 2), 25);
        due(desk.ofTerm(longest, 3), 25);
        due(desk.ofTerm(longest, 4), 2);
        due(desk.ofTerm(longest, 5), longest - 1);
        due(desk.ofTerm(longest, 6), -1);
        int all = of(desk, "g(x,g(y,c(z,g(u,c(v,w)))))");
        due(desk.ofTerm(all, 4), 63);
        due(desk.ofTerm(all, 2), 11);
        due(desk.ofTerm(all, 3), 6);
        about("ofTerm(): how many different TERMS are WITHIN it, of two PARTS that are the same one");
        int shared = of(desk, "g(c(f(a),a),c(f(a),a))");
        due(desk.ofTerm(shared, 1), 9);
        due(desk.ofTerm(shared, 2), 4);
        due(desk.ofTerm(shared, 5), desk.ofTerm(shared, 6));
        about("ofTerm(): the most TERMS of a row, down the one PART or the other");
        due(desk.ofTerm(of(desk, "g(f(f(f(a))),f(a))"), 3), 5);
        due(desk.ofTerm(of(desk, "c(f(a),f(f(f(a))))"), 3), 5);
        about("ofTerm(): what is 0 to 6");
        for (int what : new int[] {Integer.MIN_VALUE, -1, 7, Integer.MAX_VALUE}) {
            refused(desk, ARGUMENT, () -> desk.ofTerm(0, what));
            refused(desk, BOUNDS, () -> desk.ofTerm(-1, what));
            refused(desk, BOUNDS, () -> desk.ofTerm(desk.house(0), what));
        }
    }

    private static void placesInOrder() {
        about("part(): a place in ORDER, from 0 up to its SIZE less one");
        Matchmakingdesk desk = new Matchmakingdesk();
        int longest = of(desk, fs(24, "u"));
        due(desk.part(longest, 0), longest);
        due(desk.part(longest, 1), longest - 1);
        due(desk.part(longest, 23), of(desk, "f(u)"));
        due(desk.part(longest, 24), 5);
        refused(desk, BOUNDS, () -> desk.part(longest, 25));
        int wide = of(desk, "g(g(x,g(y,z)),c(f(u),c(v,w)))");
        StringBuilder heads = new StringBuilder();
        for (int place = 0; place < desk.ofTerm(wide, 1); place++) {
            heads.append(desk.text(desk.part(wide, place)).charAt(0));
        }
        due(heads.toString(), "ggxgyzcfucvw");
        refused(desk, BOUNDS, () -> desk.part(wide, 12));
        for (int leaf = 0; leaf < 8; leaf++) {
            int number = leaf;
            due(desk.part(number, 0), number);
            refused(desk, BOUNDS, () -> desk.part(number, 1));
            refused(desk, BOUNDS, () -> desk.part(number, -1));
        }
        refused(desk, BOUNDS, () -> desk.part(wide, Integer.MAX_VALUE));
        refused(desk, BOUNDS, () -> desk.part(wide, Integer.MIN_VALUE));
    }

    private static void fillsByNames() {
        about("fill(): how many NAMES have a FILL then, from 1 to 6");
        Matchmakingdesk desk = new Matchmakingdesk();
        due(desk.house(1), 0);
        for (int name = 5; name >= 0; name--) {
            due(desk.fill(name, 0), 6 - name);
        }
        due(desk.house(1), 6);
        about("fill(): instead of its FILL before");
        due(desk.fill(0, 1), 6);
        due(desk.fill(5, 7), 6);
        due(desk.house(1), 6);
        due(desk.fills(), "x=b;y=a;z=a;u=a;v=a");
        about("fill(), unfill(): name is 0 to 5");
        for (int name : new int[] {Integer.MIN_VALUE, -1, 6, Integer.MAX_VALUE}) {
            refused(desk, ARGUMENT, () -> desk.fill(name, 0));
            refused(desk, ARGUMENT, () -> desk.fill(name, -1));
            refused(desk, ARGUMENT, () -> desk.unfill(name));
        }
        about("fill(): there is such a TERM");
        for (int term : new int[] {Integer.MIN_VALUE, -1, 8, Integer.MAX_VALUE}) {
            refused(desk, BOUNDS, () -> desk.fill(0, term));
            refused(desk, BOUNDS, () -> desk.fill(5, term));
        }
        about("unfill(): how many NAMES have a FILL then, from 5 to 0");
        for (int name = 0; name < 6; name++) {
            int each = name;
            due(desk.unfill(name), 5 - name);
            refused(desk, ELEMENT, () -> desk.unfill(each));
        }
        due(desk.fills(), "");
        about("unfill(): a NAME that was FILLED with itself has a FILL");
        due(desk.fill(3, 5), 1);
        due(desk.unfill(3), 0);
        refused(desk, ELEMENT, () -> desk.unfill(3));
    }

    private static void allAtOnce() {
        about("FILLED: each of these NAMES is replaced by its TERM, all at once");
        Matchmakingdesk desk = new Matchmakingdesk();
        int term = of(desk, "g(x,g(y,c(z,g(u,c(v,w)))))");
        due(desk.once(term), term);
        for (int name = 0; name < 6; name++) {
            desk.fill(name, 2 + (name + 1) % 6);
        }
        due(desk.text(desk.once(term)), "g(y,g(z,c(u,g(v,c(w,x)))))");
        desk.fill(5, of(desk, "f(w)"));
        due(desk.text(desk.once(term)), "g(y,g(z,c(u,g(v,c(w,f(w))))))");
        due(desk.text(desk.once(7)), "f(w)");
        due(desk.once(2), 3);
        due(desk.once(1), 1);
    }

    private static void textOfFills() {
        about("fills(): by NAMES, those with another TERM than themselves, ; between; empty without any");
        Matchmakingdesk desk = new Matchmakingdesk();
        due(desk.fills(), "");
        for (int name = 0; name < 6; name++) {
            desk.fill(name, 2 + name);
        }
        due(desk.fills(), "");
        due(desk.house(1), 6);
        desk.fill(5, 2);
        due(desk.fills(), "w=x");
        desk.fill(0, of(desk, "f(x)"));
        due(desk.fills(), "x=f(x);w=x");
        for (int name = 0; name < 6; name++) {
            desk.fill(name, 7 - name);
        }
        due(desk.fills(), "x=w;y=v;z=u;u=z;v=y;w=x");
        String big = "g(" + fs(11, "a") + "," + fs(11, "a") + ")";
        desk.fill(2, of(desk, big));
        due(desk.fills(), "x=w;y=v;z=" + big + ";u=z;v=y;w=x");
    }

    private static void againAndAgain() {
        about("deep(): till no NAME with a FILL is WITHIN it");
        Matchmakingdesk desk = new Matchmakingdesk();
        int both = of(desk, "g(x,w)");
        due(desk.deep(both), both);
        for (int name = 0; name < 5; name++) {
            desk.fill(name, 3 + name);
        }
        due(desk.text(desk.deep(both)), "g(w,w)");
        desk.fill(5, 0);
        due(desk.text(desk.deep(both)), "g(a,a)");
        due(desk.deep(2), 0);
        about("deep(): the FILLS may come in falling order, too");
        for (int name = 5; name > 0; name--) {
            desk.fill(name, 1 + name);
        }
        desk.fill(0, of(desk, "f(b)"));
        due(desk.text(desk.deep(both)), "g(f(b),f(b))");
        about("deep(): a RING of FILLS, also one that the TERM does not come to, or of one NAME, FILLED with itself");
        Matchmakingdesk ring = new Matchmakingdesk();
        ring.fill(5, 7);
        refused(ring, STATE, () -> ring.deep(0));
        refused(ring, STATE, () -> ring.deep(2));
        refused(ring, STATE, () -> ring.deep(7));
        refused(ring, BOUNDS, () -> ring.deep(-1));
        refused(ring, BOUNDS, () -> ring.deep(8));
        ring.unfill(5);
        due(ring.deep(7), 7);
    }

    private static void ringsOfFills() {
        about("rings(): the NAMES that come to themselves");
        Matchmakingdesk desk = new Matchmakingdesk();
        due(desk.rings(), "-");
        for (int name = 0; name < 6; name++) {
            desk.fill(name, 2 + name);
            due(desk.rings(), "x y z u v w".substring(0, 2 * name + 1));
        }
        about("rings(): one RING of all six NAMES, up or down");
        for (int name = 0; name < 6; name++) {
            desk.fill(name, 2 + (name + 1) % 6);
        }
        due(desk.rings(), "x y z u v w");
        for (int name = 0; name < 6; name++) {
            desk.fill(name, 2 + (name + 5) % 6);
        }
        due(desk.rings(), "x y z u v w");
        about("rings(): one FILL less, and nobody comes to itself");
        for (int name = 0; name < 6; name++) {
            desk.unfill(name);
            due(desk.rings(), "-");
            desk.fill(name, 0);
            due(desk.rings(), "-");
            due(desk.deep(2 + name), 0);
            desk.undo();
            desk.undo();
            due(desk.rings(), "x y z u v w");
        }
        about("rings(): a NAME that comes to a RING is in none");
        Matchmakingdesk tail = new Matchmakingdesk();
        tail.fill(0, of(tail, "g(a,f(y))"));
        tail.fill(1, of(tail, "c(b,z)"));
        tail.fill(2, of(tail, "f(y)"));
        tail.fill(5, 2);
        due(tail.rings(), "y z");
        refused(tail, STATE, () -> tail.deep(3));
        tail.fill(4, of(tail, "g(v,a)"));
        due(tail.rings(), "y z v");
        tail.unfill(1);
        due(tail.rings(), "v");
        tail.unfill(4);
        due(tail.rings(), "-");
    }

    private static void noSuchTerm() {
        about("there is no such TERM: below 0, from their count on");
        Matchmakingdesk few = new Matchmakingdesk();
        Matchmakingdesk full = crowded(48);
        for (Matchmakingdesk desk : new Matchmakingdesk[] {few, full}) {
            for (int far : new int[] {Integer.MIN_VALUE, -9, -1, desk.house(0), 48, 54, Integer.MAX_VALUE}) {
                refused(desk, BOUNDS, () -> desk.term(2, far, 0));
                refused(desk, BOUNDS, () -> desk.term(3, 0, far));
                refused(desk, BOUNDS, () -> desk.put(far, 0, 0));
                refused(desk, BOUNDS, () -> desk.put(0, 0, far));
                refused(desk, BOUNDS, () -> desk.text(far));
                refused(desk, BOUNDS, () -> desk.ofTerm(far, 0));
                refused(desk, BOUNDS, () -> desk.part(far, 0));
                refused(desk, BOUNDS, () -> desk.fill(0, far));
                refused(desk, BOUNDS, () -> desk.once(far));
                refused(desk, BOUNDS, () -> desk.deep(far));
            }
            int last = desk.house(0) - 1;
            String text = desk.text(last);
            due(text, last == 7 ? "w" : "c(z,w)");
            due(desk.put(last, 0, last), last);
            due(desk.part(last, 0), last);
            due(desk.once(last), last);
            due(desk.deep(last), last);
            due(desk.fill(0, last), 1);
            due(desk.fills(), "x=" + text);
        }
    }
}
