import java.lang.management.ManagementFactory;

/** What calls make is counted: a run has 7.3 million fields and elements, so 4 to 8 bytes each. */
public final class RoomTest {
    private static final com.sun.management.ThreadMXBean COUNTER =
        (com.sun.management.ThreadMXBean) ManagementFactory.getThreadMXBean();

    private RoomTest() {
    }

    private static long made() {
        return COUNTER.getThreadAllocatedBytes(Thread.currentThread().getId());
    }

    private static void upTo(String what, long most, Runnable calls) {
        long before = made();
        calls.run();
        long its = made() - before;
        Check.holds(what + " made " + its + " bytes, more than " + most, its <= most);
        System.out.println(what + ": " + its + " bytes");
    }

    private static void playAll(RuleSheets x, int steps) {
        x.start();
        for (int n = 0; n < steps; n++) {
            x.moves(0);
            x.terminal();
            x.goal(0);
            x.sign(1, 0, 0);
            x.play(n % 2);
        }
    }

    private static void smallGame() {
        RuleSheets[] x = new RuleSheets[1];
        String walk = "(role a)(init (c (n 0)))(legal a (go up))(legal a (go down))(s 0 1)(s 1 2)(s 2 3)(s 3 0)"
            + "(<= (next (c (n ?y))) (true (c (n ?x))) (s ?x ?y) (does a (go up)))"
            + "(<= (next (c (n ?y))) (true (c (n ?x))) (s ?y ?x) (does a (go down)))";
        upTo("a new object", 260000, () -> x[0] = new RuleSheets());
        upTo("put", 2000, () -> Check.write(x[0], walk));
        Check.due("read()", 0, () -> x[0].read());
        upTo("read again", 2000, () -> x[0].read());
        playAll(x[0], 10);
        upTo("a long game", 2000, () -> playAll(x[0], 60));
        upTo("the first explore", 250000, () -> Check.holds("explore() of a small game", x[0].explore() == 4));
        x[0].read();
        upTo("one more explore", 2000, () -> Check.holds("explore() of a small game", x[0].explore() == 4));
    }

    private static void junkGame() {
        RuleSheets x = Check.reading(junk());
        playOn(x, 10);
        upTo("a long game with much that isn't kept", 2000, () -> playOn(x, 120));
        upTo("the first explore with much that isn't kept", 250000, () -> Check.holds("explore() of it", x.explore() == 200));
        x.read();
        upTo("explore with much that isn't kept", 2000, () -> Check.holds("explore() of it", x.explore() == 200));
    }

    private static void playOn(RuleSheets x, int steps) {
        x.start();
        for (int n = 0; n < steps; n++) {
            x.play(n % 10);
        }
        Check.holds("ten moves", x.moves(0) == 10);
    }

    private static void greatGame() {
        RuleSheets x = Check.reading(great());
        upTo("a great sheet", 4000000, () -> Check.holds("explore() of it", x.explore() == 242));
        x.read();
        upTo("a great sheet again", 20000, () -> Check.holds("explore() of it", x.explore() == 242));
    }

    public static void main(String[] args) {
        smallGame();
        junkGame();
        greatGame();
        Check.finish();
    }

    /** 200 states, in each of which some 60 terms come that come in no other one. */
    private static String junk() {
        StringBuilder out = new StringBuilder("(role a)(init (c 0 0))");
        for (int k = 0; k < 19; k++) {
            out.append("(s ").append(k).append(' ').append(k + 1).append(')').append(k < 9 ? "(t " + k + " " + (k + 1) + ")" : "");
        }
        return out + "(d 0)(<= (d ?y) (t ?x ?y))(<= (legal a (go ?x ?y ?k)) (true (c ?x ?y)) (d ?k))"
            + "(<= (next (c ?x ?z)) (true (c ?x ?y)) (s ?y ?z))(<= (next (c ?z 0)) (true (c ?x 19)) (t ?x ?z))(<= terminal (true (c 9 19)))"
            + "(<= (junk (j ?x ?y (i ?x ?k ?y)) (h ?k ?x ?y)) (true (c ?x ?y)) (d ?k))(<= (more (l ?m) (n ?m)) (does a ?m))";
    }

    /** Some 240 states with 48 terms each, most of which are unlike. */
    private static String great() {
        StringBuilder out = new StringBuilder("(role a)(legal a go)(init (c 0 0))");
        for (int k = 0; k < 23; k++) {
            out.append("(s ").append(k).append(' ').append(k + 1).append(')').append(k < 9 ? "(t " + k + " " + (k + 1) + ")" : "");
        }
        out.append("(<= (next (c ?x ?z)) (true (c ?x ?y)) (s ?y ?z))(<= (next (c ?z 0)) (true (c ?x 23)) (t ?x ?z))");
        out.append("(<= (next (g (h ?x ?y) (k ?z ?x ?y))) (true (c ?x ?y)) (s ?z ?w))");
        out.append("(<= (next (g (h ?x ?y) (l ?z ?x ?y))) (true (c ?x ?y)) (s ?z ?w))");
        return out.toString();
    }
}
