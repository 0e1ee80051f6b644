/** Promise by promise: ordinary calls, the edges that the document names, and wrong ones. */
public final class PromisesTest extends Checks {

    public static void main(String[] args) {
        newObject();
        term();
        put();
        text();
        ofTerm();
        part();
        fill();
        unfill();
        fills();
        once();
        deep();
        rings();
        equal();
        unlike();
        step();
        steps();
        clear();
        equation();
        solved();
        stays();
        staysAtForty();
        staysWithFarSides();
        staysWithALeftSide();
        unify();
        why();
        match();
        cases();
        isTurned();
        isEndless();
        ways();
        way();
        common();
        lay();
        lift();
        shelf();
        ask();
        commonOfAll();
        undo();
        blank();
        knock();
        house();
        isSound();
        digest();
        end("all promises kept");
    }

    private static void newObject() {
        about("promise 1");
        Matchmakingdesk desk = new Matchmakingdesk();
        due(desk.house(0), 8);
        for (int what = 1; what <= 8; what++) {
            due(desk.house(what), 0);
        }
        String heads = "abxyzuvw";
        for (int number = 0; number < 8; number++) {
            due(desk.text(number), heads.substring(number, number + 1));
        }
        due(desk.fills(), "");
        refused(desk, BOUNDS, () -> desk.equation(0));
        refused(desk, BOUNDS, () -> desk.shelf(0));
    }

    private static void term() {
        about("promise 2");
        Matchmakingdesk desk = new Matchmakingdesk();
        due(desk.term(2, 2, -7), 8);
        due(desk.term(3, 8, 3), 9);
        due(desk.term(4, 8, 3), 10);
        due(desk.term(3, 8, 3), 9);
        due(desk.text(10), "c(f(x),y)");
        refused(desk, ARGUMENT, () -> desk.term(1, 0, 0));
        refused(desk, ARGUMENT, () -> desk.term(5, 0, 0));
        refused(desk, ARGUMENT, () -> desk.term(-1, -1, -1));
        refused(desk, BOUNDS, () -> desk.term(2, 11, 0));
        refused(desk, BOUNDS, () -> desk.term(2, -1, 0));
        refused(desk, BOUNDS, () -> desk.term(3, 0, 11));
        refused(desk, BOUNDS, () -> desk.term(4, 0, -1));
        Matchmakingdesk long24 = new Matchmakingdesk();
        int longest = of(long24, fs(24, "x"));
        due(long24.ofTerm(longest, 1), 25);
        due(long24.term(2, longest, 0), -9);
        due(long24.house(0), 32);
        Matchmakingdesk full = new Matchmakingdesk();
        for (int i = 0; i < 40; i++) {
            due(full.term(3 + i % 2, i / 14, i / 2 % 7), 8 + i);
        }
        due(full.term(2, 0, 0), -9);
        due(full.house(0), 48);
        due(full.term(4, 0, 0), 9);
    }

    private static void put() {
        about("promise 3");
        Matchmakingdesk desk = new Matchmakingdesk();
        int into = of(desk, "g(x,f(x))");
        int by = of(desk, "c(x,y)");
        due(desk.text(desk.put(into, 0, by)), "g(c(x,y),f(c(x,y)))");
        due(desk.house(0), 8 + 3 + 2);
        due(desk.put(into, 1, by), into);
        due(desk.put(2, 0, 0), 0);
        // The parts come ahead, the first one first.
        due(desk.text(desk.put(of(desk, "g(f(z),f(f(z)))"), 2, 1)), "g(f(b),f(f(b)))");
        due(desk.text(desk.house(0) - 1), "g(f(b),f(f(b)))");
        due(desk.text(desk.house(0) - 2), "f(f(b))");
        due(desk.text(desk.house(0) - 3), "f(b)");
        refused(desk, BOUNDS, () -> desk.put(99, 9, 0));
        refused(desk, BOUNDS, () -> desk.put(0, 9, -1));
        refused(desk, ARGUMENT, () -> desk.put(0, 6, 0));
        refused(desk, ARGUMENT, () -> desk.put(0, -1, 0));
        // Too big: nothing comes, no parts either.
        Matchmakingdesk big = new Matchmakingdesk();
        int twelve = of(big, "g(f(f(f(f(f(x))))),f(f(f(f(y)))))");
        due(big.ofTerm(twelve, 1), 12);
        int both = big.term(3, twelve, 0);
        int just = big.put(both, 0, twelve);
        due(big.ofTerm(just, 1), 25);
        int count = big.house(0);
        due(just, count - 1);
        due(big.put(just, 0, of(big, "f(x)")), -9);
        due(big.house(0), count);
    }

    private static void text() {
        about("promise 4");
        Matchmakingdesk desk = new Matchmakingdesk();
        due(desk.text(of(desk, "g(c(a,f(w)),f(g(b,x)))")), "g(c(a,f(w)),f(g(b,x)))");
        refused(desk, BOUNDS, () -> desk.text(-1));
        refused(desk, BOUNDS, () -> desk.text(desk.house(0)));
    }

    private static void ofTerm() {
        about("promise 5");
        Matchmakingdesk desk = new Matchmakingdesk();
        int term = of(desk, "g(g(x,z),c(f(z),z))");
        int[] due = {3, 8, 6, 4, 5, of(desk, "g(x,z)"), of(desk, "c(f(z),z)")};
        for (int what = 0; what <= 6; what++) {
            due(desk.ofTerm(term, what), due[what]);
        }
        due(desk.ofTerm(7, 0), -1);
        due(desk.ofTerm(7, 1), 1);
        due(desk.ofTerm(7, 2), 1);
        due(desk.ofTerm(7, 3), 1);
        due(desk.ofTerm(7, 4), 32);
        due(desk.ofTerm(7, 5), -1);
        due(desk.ofTerm(1, 0), 1);
        due(desk.ofTerm(1, 4), 0);
        due(desk.ofTerm(1, 6), -1);
        int f = of(desk, "f(z)");
        due(desk.ofTerm(f, 0), 2);
        due(desk.ofTerm(f, 5), 4);
        due(desk.ofTerm(f, 6), -1);
        refused(desk, BOUNDS, () -> desk.ofTerm(99, 9));
        refused(desk, ARGUMENT, () -> desk.ofTerm(0, 7));
        refused(desk, ARGUMENT, () -> desk.ofTerm(0, -1));
    }

    private static void part() {
        about("promise 6");
        Matchmakingdesk desk = new Matchmakingdesk();
        int term = of(desk, "g(c(f(x),a),f(y))");
        String[] order = {"g(c(f(x),a),f(y))", "c(f(x),a)", "f(x)", "x", "a", "f(y)", "y"};
        for (int place = 0; place < order.length; place++) {
            due(desk.text(desk.part(term, place)), order[place]);
        }
        due(desk.part(3, 0), 3);
        refused(desk, BOUNDS, () -> desk.part(term, 7));
        refused(desk, BOUNDS, () -> desk.part(term, -1));
        refused(desk, BOUNDS, () -> desk.part(-1, 0));
    }

    private static void fill() {
        about("promise 7");
        Matchmakingdesk desk = new Matchmakingdesk();
        due(desk.fill(0, 1), 1);
        due(desk.fill(5, 7), 2);
        due(desk.fill(0, 0), 2);
        due(desk.fills(), "x=a");
        refused(desk, ARGUMENT, () -> desk.fill(6, 99));
        refused(desk, ARGUMENT, () -> desk.fill(-1, 0));
        refused(desk, BOUNDS, () -> desk.fill(0, 8));
        refused(desk, BOUNDS, () -> desk.fill(0, -1));
    }

    private static void unfill() {
        about("promise 8");
        Matchmakingdesk desk = new Matchmakingdesk();
        desk.fill(0, 0);
        desk.fill(1, 3);
        due(desk.unfill(0), 1);
        refused(desk, ELEMENT, () -> desk.unfill(0));
        due(desk.unfill(1), 0);
        refused(desk, ARGUMENT, () -> desk.unfill(6));
        refused(desk, ARGUMENT, () -> desk.unfill(-1));
    }

    private static void fills() {
        about("promise 9");
        Matchmakingdesk desk = new Matchmakingdesk();
        due(desk.fills(), "");
        desk.fill(2, of(desk, "f(x)"));
        desk.fill(0, of(desk, "c(a,y)"));
        desk.fill(1, 3);
        due(desk.fills(), "x=c(a,y);z=f(x)");
        desk.unfill(0);
        due(desk.fills(), "z=f(x)");
    }

    private static void once() {
        about("promise 10");
        Matchmakingdesk desk = new Matchmakingdesk();
        int term = of(desk, "g(x,g(y,z))");
        due(desk.once(term), term);
        desk.fill(0, 3);
        desk.fill(1, of(desk, "f(x)"));
        due(desk.text(desk.once(term)), "g(y,g(f(x),z))");
        desk.fill(0, of(desk, fs(22, "a")));
        due(desk.ofTerm(desk.house(0) - 1, 1), 23);
        due(desk.once(of(desk, "g(x,x)")), -9);
        due(desk.text(desk.house(0) - 1), "g(x,x)");
        due(desk.ofTerm(desk.once(of(desk, "f(x)")), 1), 24);
        refused(desk, BOUNDS, () -> desk.once(-1));
        refused(desk, BOUNDS, () -> desk.once(48));
    }

    private static void deep() {
        about("promise 11");
        Matchmakingdesk desk = new Matchmakingdesk();
        int term = of(desk, "g(x,z)");
        due(desk.deep(term), term);
        desk.fill(0, of(desk, "f(y)"));
        desk.fill(1, of(desk, "c(z,u)"));
        desk.fill(3, 0);
        due(desk.text(desk.deep(term)), "g(f(c(z,a)),z)");
        desk.fill(2, 4);
        refused(desk, STATE, () -> desk.deep(0));
        refused(desk, BOUNDS, () -> desk.deep(-1));
        refused(desk, BOUNDS, () -> desk.deep(99));
        // Grows by each fill: far too big in the end.
        Matchmakingdesk grown = new Matchmakingdesk();
        for (int name = 0; name < 5; name++) {
            int next = 3 + name;
            grown.fill(name, of(grown, "g(g(g(N,N),g(N,N)),g(g(N,N),g(N,N)))".replace('N', "abxyzuvw".charAt(next))));
        }
        int before = grown.house(0);
        due(grown.deep(2), -9);
        due(grown.deep(5), -9);
        due(grown.house(0), before);
        due(grown.ofTerm(grown.deep(6), 1), 15);
        due(grown.deep(7), 7);
    }

    private static void rings() {
        about("promise 12");
        Matchmakingdesk desk = new Matchmakingdesk();
        due(desk.rings(), "-");
        desk.fill(0, of(desk, "f(y)"));
        desk.fill(1, of(desk, "g(a,z)"));
        due(desk.rings(), "-");
        desk.fill(2, of(desk, "c(y,b)"));
        due(desk.rings(), "y z");
        desk.fill(5, 7);
        due(desk.rings(), "y z w");
        desk.fill(2, of(desk, "g(u,x)"));
        due(desk.rings(), "x y z w");
        desk.unfill(1);
        due(desk.rings(), "w");
    }

    private static void equal() {
        about("promise 13");
        Matchmakingdesk desk = new Matchmakingdesk();
        due(desk.equal(2, 0), 1);
        desk.steps(5);
        due(desk.house(4), 1);
        due(desk.equal(0, 1), 2);
        due(desk.house(4), 0);
        due(desk.equation(1), "a=b");
        desk.steps(5);
        due(desk.house(4), 2);
        due(desk.equal(0, 0), 3);
        due(desk.house(4), 2);
        for (int count = 4; count <= 10; count++) {
            due(desk.equal(3, 4), count);
        }
        refused(desk, STATE, () -> desk.equal(0, 0));
        refused(desk, BOUNDS, () -> desk.equal(0, 8));
        refused(desk, BOUNDS, () -> desk.equal(-1, 0));
        // More may come by steps; then there is no room either.
        Matchmakingdesk more = new Matchmakingdesk();
        int pair = of(more, "g(x,y)");
        int other = of(more, "g(z,u)");
        more.equal(pair, other);
        for (int i = 0; i < 9; i++) {
            more.equal(0, 1);
        }
        due(more.step(), 3);
        due(more.house(2), 11);
        refused(more, STATE, () -> more.equal(0, 0));
    }

    private static void unlike() {
        about("promise 14");
        Matchmakingdesk desk = new Matchmakingdesk();
        for (int count = 1; count <= 6; count++) {
            due(desk.unlike(2, count), count);
        }
        refused(desk, STATE, () -> desk.unlike(0, 0));
        refused(desk, BOUNDS, () -> desk.unlike(0, 8));
        refused(desk, BOUNDS, () -> desk.unlike(-1, 0));
    }

    private static void step() {
        about("promise 15");
        Matchmakingdesk desk = new Matchmakingdesk();
        desk.equal(of(desk, "g(f(x),y)"), of(desk, "g(y,f(a))"));
        desk.equal(2, 2);
        due(desk.step(), 3);
        due(desk.equation(0) + " " + desk.equation(1) + " " + desk.equation(2), "f(x)=y y=f(a) x=x");
        due(desk.step(), 4);
        due(desk.equation(0), "y=f(x)");
        due(desk.step(), 6);
        due(desk.equation(0) + " " + desk.equation(1) + " " + desk.equation(2), "y=f(x) f(x)=f(a) x=x");
        due(desk.step(), 3);
        due(desk.equation(1), "x=a");
        due(desk.step(), 6);
        due(desk.equation(0) + " " + desk.equation(1) + " " + desk.equation(2), "y=f(a) x=a a=a");
        due(desk.house(4), 0);
        due(desk.step(), 1);
        due(desk.house(2), 2);
        due(desk.house(4), 0);
        due(desk.step(), 0);
        due(desk.house(4), 1);
        due(desk.step(), 0);
        due(desk.house(4), 1);
        stepEnds();
        Matchmakingdesk empty = new Matchmakingdesk();
        due(empty.step(), 0);
        due(empty.house(4), 1);
    }

    private static void stepEnds() {
        Matchmakingdesk clash = new Matchmakingdesk();
        clash.equal(0, of(clash, "f(x)"));
        due(clash.step(), 2);
        due(clash.house(4), 2);
        due(clash.equation(0), "a=f(x)");
        due(clash.step(), 0);
        due(clash.house(4), 2);
        Matchmakingdesk ring = new Matchmakingdesk();
        ring.equal(2, of(ring, "f(x)"));
        due(ring.step(), 5);
        due(ring.house(4), 3);
        due(ring.step(), 0);
        Matchmakingdesk great = new Matchmakingdesk();
        int x = of(great, fs(20, "y"));
        great.equal(2, x);
        great.equal(3, of(great, fs(20, "z")));
        great.equal(5, 2);
        due(great.step(), 6);
        // y=f^20(z) would make of the first one f^40(z): 41 letters.
        due(great.step(), 0);
        due(great.house(4), 4);
        due(great.equation(0), "x=" + fs(20, "y"));
        due(great.step(), 0);
        due(great.house(4), 4);
        Matchmakingdesk just = new Matchmakingdesk();
        just.equal(2, of(just, fs(20, "y")));
        just.equal(3, of(just, fs(19, "z")));
        due(just.step(), 6);
        due(just.equation(0), "x=" + fs(39, "z"));
        due(just.step(), 0);
        due(just.house(4), 1);
        due(just.solved(0), fs(39, "z"));
    }

    private static void steps() {
        about("promise 16");
        Matchmakingdesk desk = new Matchmakingdesk();
        desk.equal(2, 3);
        desk.equal(2, 4);
        due(desk.steps(1), 1);
        due(desk.house(4), 0);
        due(desk.steps(1), 1);
        due(desk.house(4), 0);
        due(desk.steps(1), 0);
        due(desk.house(4), 1);
        due(desk.steps(20), 0);
        desk.undo();
        desk.undo();
        desk.undo();
        desk.undo();
        due(desk.steps(3), 2);
        due(desk.house(4), 1);
        desk.equal(0, 1);
        due(desk.steps(20), 1);
        due(desk.house(4), 2);
        due(desk.steps(20), 0);
        refused(desk, ARGUMENT, () -> desk.steps(0));
        refused(desk, ARGUMENT, () -> desk.steps(21));
        Matchmakingdesk many = new Matchmakingdesk();
        int term = of(many, "f(g(a,b))");
        int other = of(many, "f(g(a,x))");
        for (int i = 0; i < 7; i++) {
            many.equal(term, other);
        }
        // 4 for the first (3, 3, 1, then b=x is turned), 1 for x in the others, 1 for each of the rest.
        due(many.steps(20), 11);
        due(many.house(4), 1);
        due(many.equation(0), "x=b");
        many.clear();
        for (int i = 0; i < 7; i++) {
            many.equal(of(many, "f(f(f(a)))"), of(many, "f(f(f(b)))"));
        }
        due(many.steps(3), 3);
        due(many.house(4), 0);
        due(many.steps(20), 1);
        due(many.house(4), 2);
        Matchmakingdesk twenty = new Matchmakingdesk();
        for (int i = 0; i < 10; i++) {
            twenty.equal(of(twenty, "f(a)"), of(twenty, "f(x)"));
        }
        // 3, 4, 6 for the first, which makes all others f(a)=f(a).
        due(twenty.steps(12), 12);
        due(twenty.house(4), 0);
        due(twenty.steps(20), 0);
        due(twenty.house(4), 1);
    }

    private static void clear() {
        about("promise 17");
        Matchmakingdesk desk = new Matchmakingdesk();
        due(desk.clear(), 0);
        desk.equal(0, 1);
        desk.equal(2, 3);
        desk.unlike(0, 0);
        desk.step();
        due(desk.house(4), 2);
        due(desk.clear(), 2);
        due(desk.house(2), 0);
        due(desk.house(3), 0);
        due(desk.house(4), 0);
    }

    private static void equation() {
        about("promise 18");
        Matchmakingdesk desk = new Matchmakingdesk();
        desk.equal(of(desk, "g(f(x),c(w,b))"), 2);
        desk.equal(0, 0);
        due(desk.equation(0), "g(f(x),c(w,b))=x");
        due(desk.equation(1), "a=a");
        refused(desk, BOUNDS, () -> desk.equation(2));
        refused(desk, BOUNDS, () -> desk.equation(-1));
    }

    private static void solved() {
        about("promise 19");
        Matchmakingdesk desk = new Matchmakingdesk();
        refused(desk, STATE, () -> desk.solved(0));
        refused(desk, ARGUMENT, () -> desk.solved(6));
        refused(desk, ARGUMENT, () -> desk.solved(-1));
        desk.equal(of(desk, "g(x,f(a))"), of(desk, "g(f(y),x)"));
        desk.steps(20);
        due(desk.solved(0), "f(a)");
        due(desk.solved(1), "a");
        due(desk.solved(5), "w");
        desk.equal(0, 1);
        desk.steps(20);
        refused(desk, STATE, () -> desk.solved(0));
    }

    private static void stays() {
        about("promise 20");
        Matchmakingdesk desk = new Matchmakingdesk();
        int fx = of(desk, "f(x)");
        desk.unlike(fx, of(desk, "f(y)"));
        desk.unlike(fx, of(desk, "f(z)"));
        desk.unlike(fx, 4);
        desk.unlike(2, 1);
        desk.unlike(4, of(desk, "f(z)"));
        desk.equal(2, 3);
        refused(desk, STATE, () -> desk.stays(0));
        refused(desk, BOUNDS, () -> desk.stays(5));
        refused(desk, BOUNDS, () -> desk.stays(-1));
        desk.equal(3, 0);
        desk.steps(20);
        due(desk.stays(0), 2);
        due(desk.stays(1), 0);
        due(desk.stays(2), 0);
        due(desk.stays(3), 1);
        due(desk.stays(4), 1);
        refused(desk, BOUNDS, () -> desk.stays(5));
        Matchmakingdesk great = new Matchmakingdesk();
        great.equal(2, of(great, fs(21, "u")));
        int two = of(great, "g(x,x)");
        great.unlike(of(great, "g(z,z)"), of(great, "g(g(x,x),w)"));
        great.unlike(4, two);
        great.unlike(two, two);
        great.steps(20);
        due(great.stays(0), -9);
        due(great.stays(1), 0);
        due(great.stays(2), 2);
        // RULE 6 for z, while another side has 45 letters already: it counts only if z stands there.
        Matchmakingdesk ahead = new Matchmakingdesk();
        ahead.equal(2, of(ahead, fs(21, "a")));
        ahead.unlike(of(ahead, "g(g(z,z),g(x,x))"), of(ahead, "g(g(u,a),w)"));
        ahead.unlike(of(ahead, "g(z,g(x,x))"), of(ahead, "g(u,w)"));
        ahead.unlike(of(ahead, "g(z,g(z,g(x,x)))"), of(ahead, "g(u,w)"));
        ahead.unlike(of(ahead, "g(g(z,z),g(x,x))"), of(ahead, "g(g(u,a),g(w,b))"));
        ahead.steps(20);
        due(ahead.stays(0), 0);
        due(ahead.stays(1), 0);
        due(ahead.stays(2), -9);
        due(ahead.stays(3), 1);
    }

    private static void staysAtForty() {
        about("promise 20");
        // g(T,g(T,z)) has 39 letters; with f(a) for z it has 40, with f(f(a)) 41.
        Matchmakingdesk desk = new Matchmakingdesk();
        desk.equal(2, of(desk, fs(17, "a")));
        int twice = of(desk, "g(z,g(x,g(x,z)))");
        desk.unlike(twice, of(desk, "g(a,w)"));
        desk.unlike(twice, of(desk, "g(f(a),w)"));
        desk.unlike(twice, of(desk, "g(f(f(a)),w)"));
        desk.unlike(twice, of(desk, "g(u,w)"));
        desk.steps(20);
        due(desk.stays(0), 0);
        due(desk.stays(1), 0);
        due(desk.stays(2), -9);
        due(desk.stays(3), 0);
    }

    private static void staysWithFarSides() {
        about("promise 20");
        // f^20(x) has 41 letters, as far below each other as the terms that are kept let it be.
        Matchmakingdesk desk = new Matchmakingdesk();
        desk.equal(2, of(desk, fs(20, "y")));
        int far = of(desk, fs(20, "x"));
        desk.unlike(far, 4);
        desk.unlike(4, far);
        desk.unlike(far, 3);
        desk.unlike(far, of(desk, fs(19, "x")));
        desk.unlike(far, 0);
        desk.unlike(far, far);
        due(desk.house(0), 48);
        desk.steps(20);
        due(desk.stays(0), 0);
        due(desk.stays(1), 0);
        due(desk.stays(2), 1);
        due(desk.stays(3), 1);
        due(desk.stays(4), 1);
        due(desk.stays(5), 2);
    }

    private static void staysWithALeftSide() {
        about("promise 20");
        // The run that was told as a fault: y has no place in u=g(T,T).
        Matchmakingdesk desk = new Matchmakingdesk();
        desk.equal(2, of(desk, "g(g(g(a,a),g(a,a)),g(g(g(a,a),g(a,a)),g(g(a,a),g(a,a))))"));
        desk.unlike(of(desk, "g(g(u,y),y)"), of(desk, "g(g(g(x,x),a),a)"));
        desk.unlike(of(desk, "g(g(g(x,x),a),a)"), of(desk, "g(g(u,y),y)"));
        desk.unlike(of(desk, "g(g(u,y),y)"), of(desk, "g(g(g(x,x),a),b)"));
        desk.unlike(of(desk, "g(g(u,y),u)"), of(desk, "g(g(g(x,x),a),a)"));
        due(desk.step(), 0);
        due(desk.stays(0), 0);
        due(desk.stays(1), 0);
        due(desk.stays(2), 1);
        due(desk.stays(3), -9);
    }

    private static void unify() {
        about("promise 21");
        Matchmakingdesk desk = new Matchmakingdesk();
        due(desk.unify(of(desk, "g(y,f(x))"), of(desk, "g(f(x),f(a))")), "x=a;y=f(a)");
        due(desk.unify(2, 3), "x=y");
        due(desk.unify(3, 2), "y=x");
        due(desk.unify(2, 2), "");
        due(desk.unify(0, 1), "-");
        due(desk.unify(2, of(desk, "f(x)")), "-");
        due(desk.unify(of(desk, "c(x,y)"), of(desk, "c(a,b)")), "x=a;y=b");
        due(desk.unify(of(desk, "c(a,b)"), of(desk, "c(b,a)")), "-");
        Matchmakingdesk great = new Matchmakingdesk();
        int left = of(great, "g(y,g(z,g(u,g(v,w))))");
        int right = of(great, "g(g(x,x),g(g(y,y),g(g(z,z),g(g(u,u),g(v,v)))))");
        due(great.unify(left, right), "!");
        int small = of(great, "g(y,g(z,g(u,v)))");
        int pairs = of(great, "g(g(x,x),g(g(y,y),g(g(z,z),g(u,u))))");
        due(great.unify(small, pairs).startsWith("y=g(x,x);z=g(g(x,x),g(x,x));u="), true);
        refused(desk, BOUNDS, () -> desk.unify(-1, 0));
        refused(desk, BOUNDS, () -> desk.unify(0, 99));
    }

    private static void why() {
        about("promise 22");
        Matchmakingdesk desk = new Matchmakingdesk();
        due(desk.why(of(desk, "g(x,f(b))"), of(desk, "g(a,c(x,x))")), "clash f c");
        due(desk.why(of(desk, "g(x,x)"), of(desk, "g(a,b)")), "clash a b");
        due(desk.why(of(desk, "g(x,y)"), of(desk, "g(f(y),g(x,a))")), "ring y=g(f(y),a)");
        due(desk.why(of(desk, "f(x)"), 2), "ring x=f(x)");
        due(desk.why(2, 3), "-");
        due(desk.why(2, 2), "-");
        refused(desk, BOUNDS, () -> desk.why(-1, 0));
        refused(desk, BOUNDS, () -> desk.why(0, 99));
    }

    private static void match() {
        about("promise 23");
        Matchmakingdesk desk = new Matchmakingdesk();
        due(desk.match(of(desk, "g(y,x)"), of(desk, "g(f(y),x)")), "x=x;y=f(y)");
        due(desk.match(of(desk, "g(x,x)"), of(desk, "g(a,b)")), "-");
        due(desk.match(of(desk, "g(x,x)"), of(desk, "g(f(x),f(x))")), "x=f(x)");
        due(desk.match(of(desk, "f(a)"), of(desk, "f(a)")), "");
        due(desk.match(0, 2), "-");
        due(desk.match(2, 0), "x=a");
        due(desk.match(of(desk, "c(x,a)"), of(desk, "c(a,b)")), "-");
        refused(desk, BOUNDS, () -> desk.match(-1, 0));
        refused(desk, BOUNDS, () -> desk.match(0, 99));
    }

    private static void cases() {
        about("promise 24");
        Matchmakingdesk desk = new Matchmakingdesk();
        int gxy = of(desk, "g(x,y)");
        int gyx = of(desk, "g(y,x)");
        int gxx = of(desk, "g(x,x)");
        due(desk.cases(gxy, gyx, false), 3);
        due(desk.cases(gxy, gxx, false), 1);
        due(desk.cases(gxx, gxy, false), 2);
        due(desk.cases(gxx, of(desk, "g(a,b)"), false), 0);
        int one = of(desk, "c(f(x),y)");
        int other = of(desk, "c(b,f(a))");
        due(desk.cases(one, other, false), 0);
        due(desk.cases(one, other, true), 1);
        due(desk.cases(other, one, true), 2);
        due(desk.cases(of(desk, "c(x,f(y))"), one, true), 3);
        due(desk.cases(of(desk, "c(c(x,y),x)"), of(desk, "c(a,c(b,a))"), true), 1);
        due(desk.cases(of(desk, "c(c(x,y),x)"), of(desk, "c(f(a),c(b,a))"), true), 0);
        // x is a, and stays so when y has been tried the other way round.
        due(desk.cases(of(desk, "g(x,c(y,c(x,y)))"), of(desk, "g(a,c(c(b,b),b))"), true), 0);
        due(desk.cases(of(desk, "g(x,c(y,c(x,y)))"), of(desk, "g(a,c(c(b,a),b))"), true), 1);
        // What one call left untried is nothing to the next one.
        due(desk.cases(of(desk, "c(x,y)"), of(desk, "c(a,b)"), true), 1);
        due(desk.cases(of(desk, "f(x)"), of(desk, "g(a,b)"), true), 0);
        due(desk.cases(of(desk, "g(x,x)"), of(desk, "g(c(a,b),c(b,a))"), true), 1);
        due(desk.cases(of(desk, "g(x,x)"), of(desk, "g(c(a,b),c(b,a))"), false), 0);
        refused(desk, BOUNDS, () -> desk.cases(-1, 0, true));
        refused(desk, BOUNDS, () -> desk.cases(0, 99, false));
    }

    private static void isTurned() {
        about("promise 25");
        Matchmakingdesk desk = new Matchmakingdesk();
        due(desk.isTurned(of(desk, "c(a,g(c(x,b),y))"), of(desk, "c(g(c(b,x),y),a)")), true);
        due(desk.isTurned(of(desk, "g(a,b)"), of(desk, "g(b,a)")), false);
        due(desk.isTurned(of(desk, "c(x,y)"), of(desk, "c(y,x)")), true);
        due(desk.isTurned(of(desk, "c(x,y)"), of(desk, "c(x,x)")), false);
        due(desk.isTurned(2, 2), true);
        due(desk.isTurned(2, 3), false);
        refused(desk, BOUNDS, () -> desk.isTurned(-1, 0));
        refused(desk, BOUNDS, () -> desk.isTurned(0, 99));
    }

    private static void isEndless() {
        about("promise 26");
        Matchmakingdesk desk = new Matchmakingdesk();
        due(desk.isEndless(2, of(desk, "f(x)")), true);
        due(desk.isEndless(of(desk, "g(x,x)"), of(desk, "g(f(x),f(f(x)))")), true);
        due(desk.isEndless(of(desk, "g(x,x)"), of(desk, "g(f(x),g(a,x))")), false);
        due(desk.isEndless(of(desk, "g(x,x)"), of(desk, "g(a,b)")), false);
        due(desk.isEndless(0, 0), true);
        due(desk.isEndless(0, 1), false);
        due(desk.isEndless(of(desk, "g(x,g(y,x))"), of(desk, "g(f(y),g(f(x),f(a)))")), false);
        due(desk.isEndless(of(desk, "c(a,b)"), of(desk, "c(b,a)")), false);
        refused(desk, BOUNDS, () -> desk.isEndless(-1, 0));
        refused(desk, BOUNDS, () -> desk.isEndless(0, 99));
    }

    private static void ways() {
        about("promise 27");
        Matchmakingdesk desk = new Matchmakingdesk();
        due(desk.ways(of(desk, "c(x,y)"), of(desk, "c(a,b)")), 2);
        due(desk.ways(of(desk, "c(x,a)"), of(desk, "c(a,b)")), 1);
        due(desk.ways(of(desk, "c(a,b)"), of(desk, "c(b,a)")), 1);
        due(desk.ways(of(desk, "g(a,b)"), of(desk, "g(b,a)")), 0);
        due(desk.ways(2, of(desk, "f(x)")), 0);
        due(desk.ways(2, 2), 1);
        // Straight x=y; crossed x=a;y=a, which is a case of it.
        due(desk.ways(of(desk, "c(x,a)"), of(desk, "c(y,a)")), 1);
        due(desk.ways(of(desk, "g(c(x,y),c(z,u))"), of(desk, "g(c(a,b),c(a,b))")), 4);
        due(desk.ways(of(desk, "c(c(x,y),c(z,u))"), of(desk, "c(c(a,b),c(a,b))")), 4);
        refused(desk, BOUNDS, () -> desk.ways(-1, 0));
        refused(desk, BOUNDS, () -> desk.ways(0, 99));
        waysTooMany();
    }

    private static void waysTooMany() {
        Matchmakingdesk desk = new Matchmakingdesk();
        int three = of(desk, "g(g(c(x,y),c(z,u)),g(c(v,w),c(x,y)))");
        int met = of(desk, "g(g(c(a,b),c(a,b)),g(c(a,b),c(a,b)))");
        due(desk.ways(three, met), 8);
        // Alike by turning, it goes by RULE 1; turned part by part, there would be 32 rows.
        int ab = of(desk, "c(c(c(a,b),c(a,b)),c(c(a,b),c(a,b)))");
        int ba = of(desk, "c(c(c(b,a),c(b,a)),c(c(b,a),c(b,a)))");
        due(desk.ways(ab, ba), 1);
        due(desk.way(ab, ba, 0), "");
        // The last c alone ends in three rows: a=a and c(a,b)=c(a,a) either way, and a=c(a,a). All clash.
        int left24 = of(desk, "g(c(x,y),g(c(z,u),g(c(v,w),c(a,c(a,b)))))");
        int right24 = of(desk, "g(c(a,b),g(c(a,b),g(c(a,b),c(a,c(a,a)))))");
        due(desk.ways(left24, right24), 0);
        // Turned, there is one row more, and it clashes at once.
        int left25 = desk.term(4, left24, 1);
        int right25 = desk.term(4, right24, 1);
        due(desk.ways(left25, right25), -9);
        due(desk.way(left25, right25, 0), "!");
        Matchmakingdesk great = new Matchmakingdesk();
        int left = of(great, "g(y,g(z,g(u,g(v,w))))");
        int right = of(great, "g(g(x,x),g(g(y,y),g(g(z,z),g(g(u,u),g(v,v)))))");
        due(great.ways(left, right), -9);
        due(great.way(left, right, 99), "!");
    }

    private static void way() {
        about("promise 28");
        Matchmakingdesk desk = new Matchmakingdesk();
        int one = of(desk, "c(x,y)");
        int other = of(desk, "c(a,b)");
        due(desk.way(one, other, 0), "x=a;y=b");
        due(desk.way(one, other, 1), "x=b;y=a");
        refused(desk, ELEMENT, () -> desk.way(one, other, 2));
        refused(desk, ELEMENT, () -> desk.way(one, other, -1));
        refused(desk, BOUNDS, () -> desk.way(99, other, 9));
        refused(desk, BOUNDS, () -> desk.way(one, -1, 9));
        due(desk.way(of(desk, "c(a,b)"), of(desk, "c(b,a)"), 0), "");
        refused(desk, ELEMENT, () -> desk.way(0, 1, 0));
        // x=c(a,b) from the first c alone, turned or not: found twice, told once.
        int gxx = of(desk, "g(x,x)");
        int turned = of(desk, "g(c(a,b),c(b,a))");
        due(desk.ways(gxx, turned), 1);
        due(desk.way(gxx, turned, 0), "x=c(a,b)");
        // The crossed one is a case of the straight one: left out.
        int cxa = of(desk, "c(x,a)");
        int cya = of(desk, "c(y,a)");
        due(desk.way(cxa, cya, 0), "x=y");
        refused(desk, ELEMENT, () -> desk.way(cxa, cya, 1));
        // The one found ahead is a case of a later one: that one alone stays.
        int late = of(desk, "c(x,f(y))");
        int first = of(desk, "c(f(a),z)");
        due(desk.ways(late, first), 2);
        due(desk.way(late, first, 0), "x=f(a);z=f(y)");
        due(desk.way(late, first, 1), "x=z;y=a");
    }

    private static void common() {
        about("promise 29");
        Matchmakingdesk desk = new Matchmakingdesk();
        int one = of(desk, "g(f(a),g(a,b))");
        int other = of(desk, "g(f(b),g(b,a))");
        due(desk.text(desk.common(one, other)), "g(f(x),g(x,y))");
        due(desk.common(0, 0), 0);
        due(desk.common(0, 1), 2);
        due(desk.common(5, 5), 2);
        due(desk.common(of(desk, "f(w)"), of(desk, "f(w)")), of(desk, "f(x)"));
        due(desk.text(desk.common(of(desk, "c(f(a),x)"), of(desk, "c(f(a),y)"))), "c(f(a),x)");
        refused(desk, BOUNDS, () -> desk.common(-1, 0));
        refused(desk, BOUNDS, () -> desk.common(0, 99));
        Matchmakingdesk seven = new Matchmakingdesk();
        int six = of(seven, "g(x,g(y,g(z,g(u,g(v,w)))))");
        int sixth = of(seven, "g(x,g(y,g(z,g(u,g(v,g(w,a))))))");
        due(seven.text(seven.common(six, sixth)), "g(x,g(y,g(z,g(u,g(v,w)))))");
        int more = of(seven, "g(x,g(y,g(z,g(u,g(v,g(w,b))))))");
        int before = seven.house(0);
        due(seven.common(more, sixth), -9);
        due(seven.house(0), before);
        Matchmakingdesk full = new Matchmakingdesk();
        int fa = of(full, "f(a)");
        int fb = of(full, "f(b)");
        for (int i = 0; full.house(0) < 48; i++) {
            full.term(3, i / 8 % 8, i % 8);
        }
        due(full.common(fa, fb), -9);
        due(full.common(fa, fa), fa);
    }

    private static void lay() {
        about("promise 30");
        Matchmakingdesk desk = new Matchmakingdesk();
        for (int count = 1; count <= 10; count++) {
            due(desk.lay(count % 3), count);
        }
        due(desk.shelf(9), 1);
        refused(desk, STATE, () -> desk.lay(0));
        refused(desk, BOUNDS, () -> desk.lay(8));
        refused(desk, BOUNDS, () -> desk.lay(-1));
    }

    private static void lift() {
        about("promise 31");
        Matchmakingdesk desk = new Matchmakingdesk();
        desk.lay(5);
        desk.lay(6);
        desk.lay(7);
        due(desk.lift(1), 6);
        due(desk.shelf(0), 5);
        due(desk.shelf(1), 7);
        due(desk.lift(1), 7);
        due(desk.house(5), 1);
        refused(desk, BOUNDS, () -> desk.lift(1));
        refused(desk, BOUNDS, () -> desk.lift(-1));
    }

    private static void shelf() {
        about("promise 32");
        Matchmakingdesk desk = new Matchmakingdesk();
        desk.lay(7);
        desk.lay(7);
        due(desk.shelf(1), 7);
        refused(desk, BOUNDS, () -> desk.shelf(2));
        refused(desk, BOUNDS, () -> desk.shelf(-1));
    }

    private static void ask() {
        about("promise 33");
        Matchmakingdesk desk = new Matchmakingdesk();
        desk.lay(of(desk, "c(x,a)"));
        desk.lay(of(desk, "c(a,x)"));
        desk.lay(of(desk, "c(y,a)"));
        desk.lay(of(desk, "c(b,a)"));
        desk.lay(of(desk, "c(x,y)"));
        desk.lay(of(desk, "f(x)"));
        desk.lay(4);
        int term = of(desk, "c(x,a)");
        due(desk.ask(term, 0), 1 + 2 + 4 + 8 + 16 + 64);
        due(desk.ask(term, 1), 1 + 4 + 8);
        due(desk.ask(term, 2), 1 + 4 + 16 + 64);
        due(desk.ask(term, 3), 1 + 4);
        due(desk.ask(term, 4), 1 + 2);
        // The names are kept apart: x is alike with f(x).
        due(desk.ask(2, 0), 127);
        due(desk.ask(of(desk, "f(f(x))"), 0), 32 + 64);
        refused(desk, BOUNDS, () -> desk.ask(99, 9));
        refused(desk, ARGUMENT, () -> desk.ask(0, 5));
        refused(desk, ARGUMENT, () -> desk.ask(0, -1));
        Matchmakingdesk great = new Matchmakingdesk();
        great.lay(of(great, "g(g(x,x),g(g(y,y),g(g(z,z),g(g(u,u),x))))"));
        great.lay(3);
        // y, z .. of the one are doubled by those of the other, which are doubled again.
        int left = of(great, "g(y,g(y,g(v,g(v,w))))");
        due(great.ask(left, 0), 3);
        Matchmakingdesk shelfless = new Matchmakingdesk();
        due(shelfless.ask(0, 0), 0);
    }

    private static void commonOfAll() {
        about("promise 34");
        Matchmakingdesk desk = new Matchmakingdesk();
        refused(desk, ELEMENT, () -> desk.commonOfAll());
        desk.lay(of(desk, "g(w,f(w))"));
        due(desk.text(desk.commonOfAll()), "g(x,f(x))");
        desk.lay(of(desk, "g(a,f(b))"));
        due(desk.text(desk.commonOfAll()), "g(x,f(y))");
        desk.lay(of(desk, "g(a,a)"));
        due(desk.text(desk.commonOfAll()), "g(x,y)");
        desk.lay(0);
        due(desk.commonOfAll(), 2);
        // What comes between is not kept.
        Matchmakingdesk between = new Matchmakingdesk();
        between.lay(of(between, "f(f(a))"));
        between.lay(of(between, "f(f(b))"));
        between.lay(of(between, "f(a)"));
        int before = between.house(0);
        due(between.text(between.commonOfAll()), "f(x)");
        due(between.house(0), before + 1);
        // More than six names between: none, even if the third one would make it less.
        Matchmakingdesk none = new Matchmakingdesk();
        none.lay(of(none, "g(x,g(y,g(z,g(u,g(v,g(w,a))))))"));
        none.lay(of(none, "g(x,g(y,g(z,g(u,g(v,g(w,b))))))"));
        none.lay(0);
        due(none.commonOfAll(), -9);
    }

    private static void undo() {
        about("promise 35");
        Matchmakingdesk desk = new Matchmakingdesk();
        refused(desk, STATE, () -> desk.undo());
        desk.fill(0, 1);
        desk.equal(2, 3);
        desk.unlike(0, 1);
        desk.lay(4);
        desk.steps(5);
        due(desk.house(4), 1);
        due(desk.house(6), 5);
        int made = desk.term(2, 2, 0);
        due(desk.undo(), 4);
        due(desk.house(4), 0);
        due(desk.text(made), "f(x)");
        due(desk.undo(), 3);
        due(desk.house(5), 0);
        due(desk.undo(), 2);
        due(desk.house(3), 0);
        due(desk.undo(), 1);
        due(desk.house(2), 0);
        due(desk.undo(), 0);
        due(desk.fills(), "");
        refused(desk, STATE, () -> desk.undo());
        undoEdges();
    }

    private static void undoEdges() {
        Matchmakingdesk desk = new Matchmakingdesk();
        for (int i = 0; i < 10; i++) {
            desk.lay(i % 8);
        }
        due(desk.house(6), 8);
        for (int left = 7; left >= 0; left--) {
            due(desk.undo(), left);
        }
        due(desk.house(5), 2);
        refused(desk, STATE, () -> desk.undo());
        // Calls that change nothing can be undone like others; calls that throw can not.
        due(desk.step(), 0);
        due(desk.step(), 0);
        due(desk.house(6), 2);
        due(desk.steps(3), 0);
        due(desk.clear(), 0);
        due(desk.house(6), 4);
        due(desk.house(4), 0);
        due(desk.undo(), 3);
        due(desk.house(4), 1);
        desk.undo();
        desk.undo();
        due(desk.undo(), 0);
        due(desk.house(4), 0);
        desk.fill(3, 0);
        desk.unfill(3);
        desk.lift(1);
        desk.lay(7);
        due(desk.house(6), 4);
        due(desk.undo(), 3);
        due(desk.house(5), 1);
        due(desk.undo(), 2);
        due(desk.shelf(1), 1);
        due(desk.undo(), 1);
        due(desk.fills(), "u=a");
        desk.blank();
        desk.knock();
        due(desk.undo(), 0);
        due(desk.house(7), 1);
        due(desk.house(8), 1);
        // Pairs that were cleared come back, whatever has come in their place.
        desk.unlike(5, 5);
        desk.clear();
        desk.unlike(0, 1);
        due(desk.undo(), 2);
        due(desk.undo(), 1);
        desk.step();
        due(desk.stays(0), 2);
        desk.clear();
        // A long row comes back as it was.
        desk.equal(of(desk, "g(c(x,f(a)),b)"), of(desk, "g(y,u)"));
        desk.step();
        desk.step();
        desk.clear();
        desk.undo();
        due(desk.equation(0) + " " + desk.equation(1), "y=c(x,f(a)) b=u");
    }

    private static void blank() {
        about("promise 36");
        Matchmakingdesk desk = new Matchmakingdesk();
        due(desk.blank(), -9);
        due(desk.blank(), -9);
        due(desk.term(3, 0, 0), 8);
        due(desk.house(7), 2);
    }

    private static void knock() {
        about("promise 37");
        Matchmakingdesk desk = new Matchmakingdesk();
        due(desk.knock(), 1);
        due(desk.knock(), 2);
        due(desk.house(8), 2);
        due(desk.house(7), 0);
    }

    private static void house() {
        about("promise 38");
        Matchmakingdesk desk = new Matchmakingdesk();
        desk.term(2, 0, 0);
        desk.fill(0, 2);
        desk.fill(1, 2);
        desk.equal(0, 1);
        desk.equal(0, 1);
        desk.equal(0, 1);
        for (int i = 0; i < 4; i++) {
            desk.unlike(0, 1);
        }
        desk.step();
        for (int i = 0; i < 6; i++) {
            desk.lay(0);
        }
        for (int i = 0; i < 7; i++) {
            desk.blank();
        }
        for (int i = 0; i < 11; i++) {
            desk.knock();
        }
        int[] due = {9, 2, 3, 4, 2, 6, 8, 7, 11};
        for (int what = 0; what <= 8; what++) {
            due(desk.house(what), due[what]);
        }
        refused(desk, ARGUMENT, () -> desk.house(9));
        refused(desk, ARGUMENT, () -> desk.house(-1));
    }

    private static void isSound() {
        about("promise 39");
        Matchmakingdesk desk = new Matchmakingdesk();
        due(desk.isSound(), true);
        desk.equal(of(desk, "g(f(x),y)"), of(desk, "g(y,f(a))"));
        desk.steps(20);
        due(desk.house(4), 1);
        due(desk.isSound(), true);
        of(desk, "g(x,g(y,g(z,g(u,g(v,g(w,a))))))");
        due(desk.isSound(), true);
    }

    private static void digest() {
        about("promise 40");
        Matchmakingdesk desk = new Matchmakingdesk();
        due(desk.digest(), slowDigest(desk));
        desk.fill(0, of(desk, "g(y,f(a))"));
        desk.fill(1, of(desk, "f(x)"));
        due(desk.digest(), slowDigest(desk));
        desk.equal(of(desk, "c(x,b)"), of(desk, "c(f(z),u)"));
        desk.unlike(2, 3);
        desk.unlike(0, 1);
        desk.lay(2);
        desk.lay(of(desk, "f(f(z))"));
        due(desk.digest(), slowDigest(desk));
        desk.step();
        desk.step();
        due(desk.digest(), slowDigest(desk));
        desk.steps(20);
        due(desk.house(4), 1);
        desk.knock();
        desk.blank();
        due(desk.digest(), slowDigest(desk));
        due(desk.digest(), desk.digest());
    }

    private static long sum;

    private static void add(long value) {
        sum = sum * 31 + value;
    }

    private static void addText(String text) {
        for (char code : text.toCharArray()) {
            add(code);
        }
    }

    /** The same checksum, told by the other methods. */
    private static long slowDigest(Matchmakingdesk desk) {
        sum = 8303;
        for (int what = 0; what <= 8; what++) {
            add(desk.house(what));
        }
        for (int term = 0; term < desk.house(0); term++) {
            for (int what = 0; what <= 6; what++) {
                add(desk.ofTerm(term, what));
            }
        }
        addText(desk.fills());
        addText(desk.rings());
        for (int k = 0; k < desk.house(2); k++) {
            addText(desk.equation(k));
        }
        for (int k = 0; k < desk.house(3) && desk.house(4) == 1; k++) {
            add(desk.stays(k));
        }
        for (int place = 0; place < desk.house(5); place++) {
            add(desk.shelf(place));
        }
        for (int what = 0; what <= 4; what++) {
            add(desk.ask(desk.house(0) - 1, what));
        }
        add(desk.isSound() ? 1 : 0);
        return sum;
    }
}
