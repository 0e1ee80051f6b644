import java.lang.management.ManagementFactory;

/** What 512 dear calls make must have room: 7.3 million elements for a whole run. Here it is far less, in bytes. */
public final class RoomTest {

    private static int wrong = 0;

    private static long madeSoFar() {
        return ((com.sun.management.ThreadMXBean) ManagementFactory.getThreadMXBean()).getCurrentThreadAllocatedBytes();
    }

    private static void under(long bound, String what, Runnable calls) {
        calls.run();
        long before = madeSoFar();
        calls.run();
        long made = madeSoFar() - before;
        if (made > bound) {
            wrong++;
            System.out.println(what + " makes " + made + " bytes, more than " + bound);
        }
    }

    public static void main(String[] args) {
        under(2_000_000, "a desk", Matchmakingdesk::new);
        Matchmakingdesk desk = new Matchmakingdesk();
        int one = 2;
        int other = 0;
        for (int i = 1; i < 11; i++) {
            one = desk.term(4, one, 2 + i % 6);
            other = desk.term(4, i % 2, other);
            desk.lay(i % 3 == 0 ? one : other);
        }
        int left = one;
        int right = other;
        desk.equal(left, right);
        desk.unlike(left, right);
        under(10_000, "512 times digest", () -> {
            for (int i = 0; i < 512; i++) {
                desk.digest();
            }
        });
        under(10_000, "512 times ways", () -> {
            for (int i = 0; i < 512; i++) {
                desk.ways(left, right);
                desk.cases(left, right, true);
            }
        });
        under(400_000, "512 times texts", () -> {
            for (int i = 0; i < 512; i++) {
                desk.text(left);
                desk.unify(left, right);
                desk.equation(0);
                desk.fills();
            }
        });
        under(10_000, "512 times fill and step", () -> {
            for (int i = 0; i < 512; i++) {
                desk.fill(i % 6, left);
                desk.step();
                desk.once(right);
            }
        });
        System.out.println(wrong == 0 ? "there is room" : wrong + " wrong");
        System.exit(wrong == 0 ? 0 : 1);
    }
}
