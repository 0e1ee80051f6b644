import java.util.function.Function;
import java.util.function.Supplier;

/** What the tests by hand share: what is due, what is refused, terms by their texts. */
abstract class Checks {

    static final Class<?> ARGUMENT = IllegalArgumentException.class;
    static final Class<?> BOUNDS = IndexOutOfBoundsException.class;
    static final Class<?> STATE = IllegalStateException.class;
    static final Class<?> ELEMENT = java.util.NoSuchElementException.class;

    /** What is looked at now: a promise, or a sentence of the document. */
    private static String about = "";
    private static int wrong = 0;
    private static int at;

    static void about(String what) {
        about = what;
    }

    static void due(Object got, Object want) {
        if (!want.equals(got)) {
            wrong++;
            System.out.println(about + ": " + got + ", due is " + want);
        }
    }

    /** Tells whether all was as due, and ends the test. */
    static void end(String allWell) {
        System.out.println(wrong == 0 ? allWell : wrong + " wrong");
        System.exit(wrong == 0 ? 0 : 1);
    }

    /** What the call answers, or the name of what it throws. */
    static Object answerOf(Supplier<Object> call) {
        try {
            return call.get();
        } catch (RuntimeException e) {
            return e.getClass().getSimpleName();
        }
    }

    /** The call throws just that, and the checksum stays. */
    static void refused(Matchmakingdesk desk, Class<?> kind, Supplier<Object> call) {
        long before = desk.digest();
        due(answerOf(call), kind.getSimpleName());
        due(desk.digest(), before);
    }

    /** The call answers -9, and the checksum stays. */
    static void nine(Matchmakingdesk desk, Supplier<Object> call) {
        long before = desk.digest();
        due(answerOf(call), -9);
        due(desk.digest(), before);
    }

    /** The call answers so (or throws that), and the desk goes on as its twin that it was not done on. */
    static void changesNothing(Supplier<Matchmakingdesk> made, Object answer, Function<Matchmakingdesk, Object> call) {
        Matchmakingdesk desk = made.get();
        Matchmakingdesk twin = made.get();
        due(answerOf(() -> call.apply(desk)), answer);
        goOnAlike(desk, twin);
    }

    /** Both answer the same now, when they go on, and back to the first call that can be undone. */
    static void goOnAlike(Matchmakingdesk desk, Matchmakingdesk twin) {
        due(desk.digest(), twin.digest());
        due(desk.term(3, 6, 6), twin.term(3, 6, 6));
        for (int back = twin.house(6); back > 0; back--) {
            due(answerOf(desk::undo), twin.undo());
            due(desk.digest(), twin.digest());
        }
        due(answerOf(desk::undo), "IllegalStateException");
        // Pairs that are not asked for until it is SOLVED.
        due(desk.steps(20), twin.steps(20));
        due(desk.digest(), twin.digest());
    }

    // ---- terms by their texts

    static int of(Matchmakingdesk desk, String text) {
        at = 0;
        return read(desk, text);
    }

    private static int read(Matchmakingdesk desk, String text) {
        char head = text.charAt(at++);
        if ("abxyzuvw".indexOf(head) >= 0) {
            return "abxyzuvw".indexOf(head);
        }
        at++;
        int first = read(desk, text);
        int second = 0;
        if (head != 'f') {
            at++;
            second = read(desk, text);
        }
        at++;
        return desk.term("abfgc".indexOf(head), first, second);
    }

    /** f(f(..x..)) with so many signs f. */
    static String fs(int count, String within) {
        return "f(".repeat(count) + within + ")".repeat(count);
    }

    /** A desk with so many TERMS: behind the first eight c(a,a), c(a,b) and so on, up to c(z,w). */
    static Matchmakingdesk crowded(int count) {
        Matchmakingdesk desk = new Matchmakingdesk();
        for (int i = 0; i < count - 8; i++) {
            desk.term(4, i / 8, i % 8);
        }
        return desk;
    }

    /** The texts of the row, with a blank between two. */
    static String row(Matchmakingdesk desk) {
        StringBuilder all = new StringBuilder();
        for (int k = 0; k < desk.house(2); k++) {
            all.append(k == 0 ? "" : " ").append(desk.equation(k));
        }
        return all.toString();
    }
}
