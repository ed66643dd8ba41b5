/** Promises 7 (start), 8 (moves), 9 (terminal), 10 (goal), 11 (play) and 12 (sign), and what holds. */
public final class PlayTest {
    /** Two take one or two of a heap of four in turn; who takes the last one wins. */
    static final String HEAP = "(role first) (role second)\n"
        + "(init (heap 4)) (init (turn first))\n"
        + "(less 1 0 1) (less 1 1 2) (less 1 2 3) (less 1 3 4) (less 2 0 2) (less 2 1 3) (less 2 2 4)\n"
        + "(other first second) (other second first)\n"
        + "(<= (legal ?r (take ?n)) (true (turn ?r)) (true (heap ?h)) (less ?n ?g ?h))\n"
        + "(<= (legal ?r wait) (true (turn ?o)) (other ?o ?r))\n"
        + "(<= (next (heap ?g)) (does ?r (take ?n)) (true (heap ?h)) (less ?n ?g ?h))\n"
        + "(<= (next (turn ?r)) (true (turn ?o)) (other ?o ?r))\n"
        + "(<= terminal (true (heap 0)))\n"
        + "(<= (goal ?r 0) (true (heap 0)) (true (turn ?r)))\n"
        + "(<= (goal ?r 100) (true (heap 0)) (true (turn ?o)) (other ?o ?r))\n";

    private PlayTest() {
    }

    private static String all(RuleSheets x, int what, int count) {
        StringBuilder out = new StringBuilder();
        for (int i = 0; i < count; i++) {
            out.append(i == 0 ? "" : " ").append(Check.text(x, what, i));
        }
        return out.toString();
    }

    private static void terms(String what, RuleSheets x, int count, String want) {
        Check.same(what, want, all(x, 0, count));
        Check.refused(what + ": one more", IndexOutOfBoundsException.class, () -> x.sign(0, count, 0));
    }

    private static void moves(String what, RuleSheets x, int role, int count, String want) {
        Check.due(what + ": how many", count, () -> x.moves(role));
        Check.same(what, want, all(x, 1 + role, count));
        Check.refused(what + ": one more", IndexOutOfBoundsException.class, () -> x.sign(1 + role, count, 0));
    }

    private static void heap() {
        RuleSheets x = Check.reading(HEAP);
        Check.due("start()", 2, x::start);
        terms("the initial state", x, 2, "(heap 4) (turn first)");
        moves("the first role's moves", x, 0, 2, "(take 1) (take 2)");
        moves("the second role's moves", x, 1, 1, "wait");
        Check.due("terminal()", 0, () -> x.terminal() ? 1 : 0);
        Check.due("goal(0)", -1, () -> x.goal(0));
        Check.due("play(1)", 2, () -> x.play(1));
        terms("the state behind", x, 2, "(heap 2) (turn second)");
        Check.refused("play(2)", IndexOutOfBoundsException.class, () -> x.play(2));
        Check.refused("play(-1)", IndexOutOfBoundsException.class, () -> x.play(-1));
        terms("the state stays", x, 2, "(heap 2) (turn second)");
        Check.due("play(1) again", 2, () -> x.play(1));
        terms("the last state", x, 2, "(heap 0) (turn first)");
        Check.due("terminal() at the end", 1, () -> x.terminal() ? 1 : 0);
        Check.due("goal(0) at the end", 0, () -> x.goal(0));
        Check.due("goal(1) at the end", 100, () -> x.goal(1));
        Check.due("start() again", 2, x::start);
        terms("the initial state again", x, 2, "(heap 4) (turn first)");
    }

    private static void noState() {
        RuleSheets x = Check.reading(HEAP);
        Check.refused("moves(9) without a state", IllegalStateException.class, () -> x.moves(9));
        Check.refused("terminal() without a state", IllegalStateException.class, () -> x.terminal() ? 1 : 0);
        Check.refused("goal(0) without a state", IllegalStateException.class, () -> x.goal(0));
        Check.refused("play(-1) without a state", IllegalStateException.class, () -> x.play(-1));
        Check.refused("sign(6,0,0) without a state", IllegalArgumentException.class, () -> x.sign(6, 0, 0));
        Check.refused("sign(-1,0,0) without a state", IllegalArgumentException.class, () -> x.sign(-1, 0, 0));
        for (int what = 0; what < 5; what++) {
            int w = what;
            Check.refused("sign of " + w + " without a state", IllegalStateException.class, () -> x.sign(w, -1, -1));
        }
        Check.due("sign(5,1,0) without a state", 's', () -> x.sign(5, 1, 0));
    }

    private static void wrongNumbers() {
        RuleSheets x = Check.started(HEAP);
        for (int r : new int[] {-1, 2, 3, 4, Integer.MAX_VALUE, Integer.MIN_VALUE}) {
            Check.refused("moves(" + r + ")", IndexOutOfBoundsException.class, () -> x.moves(r));
            Check.refused("goal(" + r + ")", IndexOutOfBoundsException.class, () -> x.goal(r));
        }
        Check.refused("sign of no third role", IndexOutOfBoundsException.class, () -> x.sign(3, 0, 0));
        Check.refused("sign of no fourth role", IndexOutOfBoundsException.class, () -> x.sign(4, 0, 0));
        Check.refused("sign(0,-1,0)", IndexOutOfBoundsException.class, () -> x.sign(0, -1, 0));
        Check.refused("sign(0,0,-1)", IndexOutOfBoundsException.class, () -> x.sign(0, 0, -1));
        Check.refused("sign(1,-1,0)", IndexOutOfBoundsException.class, () -> x.sign(1, -1, 0));
        Check.refused("sign(1,0,-1)", IndexOutOfBoundsException.class, () -> x.sign(1, 0, -1));
        Check.refused("sign(5,2,0)", IndexOutOfBoundsException.class, () -> x.sign(5, 2, 0));
        Check.refused("sign(5,-1,0)", IndexOutOfBoundsException.class, () -> x.sign(5, -1, 0));
        Check.refused("sign(5,0,-1)", IndexOutOfBoundsException.class, () -> x.sign(5, 0, -1));
        Check.refused("sign(6,-1,-1)", IllegalArgumentException.class, () -> x.sign(6, -1, -1));
        Check.refused("play(the greatest)", IndexOutOfBoundsException.class, () -> x.play(Integer.MAX_VALUE));
        Check.due("sign far behind the end", 0, () -> x.sign(0, 0, Integer.MAX_VALUE));
        Check.due("sign right behind the end", 0, () -> x.sign(0, 0, 8));
        Check.due("the last sign", ')', () -> x.sign(0, 0, 7));
        Check.due("sign behind a name's end", 0, () -> x.sign(2, 0, 4));
        Check.due("sign behind a role's end", 0, () -> x.sign(5, 0, 5));
    }

    /** Sign by sign: ( ahead of names, a text that ends ahead of one that goes on, a blank ahead of ) . */
    private static void order() {
        RuleSheets x = Check.started("(init b)(init ab)(init a)(init a_)(init a0)(init aa)(init 9)(init 10)(init _)"
            + "(init (b c))(init (a c))(init (a c d))(init (a c d e))(init (a b z))(init (ab c))"
            + "(init (a (c d)))(init (a (c d e) b))(init (a ca))(init (b c d))(init (b (b c)))(init z)(init z)");
        terms("fewer terms behind more", Check.started("(init (q r))(init (q r z))(init (q r a))(init (q r a z))"), 4, "(q r a z) (q r a) (q r z) (q r)");
        terms("states in order", x, 21, "(a (c d e) b) (a (c d)) (a b z) (a c d e) (a c d) (a c) (a ca) (ab c)"
            + " (b (b c)) (b c d) (b c) 10 9 _ a a0 a_ aa ab b z");
    }

    private static void goals() {
        RuleSheets x = Check.started("(role a)(role b)(role c)(role d)(role e)"
            + "(goal a 0)(goal a 00)(goal a 000)(goal a 101)(goal a 1000)(goal a 0000)(goal a x)(goal a (f 1))(goal a 1a)"
            + "(goal b 100)(goal b x)(goal b 1x)(goal b 1000)(goal b 0000)(goal c 99)(goal c 099)(goal c 9)(goal e 3)(goal z 3)(goal d 200)");
        Check.due("a goal told in several ways", 0, () -> x.goal(0));
        Check.due("a goal of 100", 100, () -> x.goal(1));
        Check.due("several goals", -2, () -> x.goal(2));
        Check.due("no goal", -1, () -> x.goal(3));
        Check.refused("the fifth role has no part", IndexOutOfBoundsException.class, () -> x.goal(4));
    }

    private static void noRoles() {
        RuleSheets x = Check.started("(init a)(legal a b)(goal a 1)");
        Check.refused("play(0) without roles", IndexOutOfBoundsException.class, () -> x.play(0));
        Check.refused("moves(0) without roles", IndexOutOfBoundsException.class, () -> x.moves(0));
        Check.refused("sign(1,0,0) without roles", IndexOutOfBoundsException.class, () -> x.sign(1, 0, 0));
        RuleSheets y = Check.started("(role a)(role b)(legal a b)");
        Check.due("a role without moves", 0, () -> y.moves(1));
        Check.refused("play(0) if a role has no move", IndexOutOfBoundsException.class, () -> y.play(0));
    }

    /** The first role's moves count most; further roles than four have no part. */
    private static void joint() {
        String sheet = "(role a)(role b)(role c)(role d)(role e)"
            + "(legal a 1)(legal a 2)(legal b 1)(legal b 2)(legal b 3)(legal c 1)(legal d 2)(legal d 1)(legal e 5)"
            + "(<= (next (did ?r ?m)) (does ?r ?m))(<= terminal (true (did a 1)))";
        RuleSheets x = Check.started(sheet);
        for (int j = 0; j < 12; j++) {
            int move = j;
            x.start();
            Check.due("play(" + j + ")", 4, () -> x.play(move));
            terms("joint move " + j, x, 4, "(did a " + (1 + j / 6) + ") (did b " + (1 + j / 2 % 3) + ") (did c 1) (did d " + (1 + j % 2) + ")");
        }
        Check.due("a terminal state is played on", 4, () -> x.play(0));
        Check.due("it is terminal", 1, () -> x.terminal() ? 1 : 0);
        Check.due("and on", 4, () -> x.play(11));
        Check.refused("no joint move 12", IndexOutOfBoundsException.class, () -> x.play(12));
    }

    private static void manyJoint() {
        StringBuilder out = new StringBuilder("(role a)(role b)(role c)(role d)");
        for (int k = 0; k < 15; k++) {
            out.append("(d ").append((char) ('a' + k)).append(")");
        }
        out.append("(<= (legal ?r (m ?x ?y)) (role ?r) (d ?x) (d ?y))(<= (next (did ?r ?m)) (does ?r ?m))");
        RuleSheets x = Check.started(out.toString());
        for (int j : new int[] {Integer.MAX_VALUE, 2000000000, 225 * 225 * 225, 1}) {
            x.start();
            Check.due("play(" + j + ") of more than an int tells", 4, () -> x.play(j));
            StringBuilder want = new StringBuilder();
            long part = 225L * 225 * 225;
            for (int r = 0; r < 4; r++) {
                int n = (int) (j / part % 225);
                want.append(r == 0 ? "" : " ").append("(did ").append("abcd".charAt(r)).append(" (m ")
                    .append((char) ('a' + n / 15)).append(' ').append((char) ('a' + n % 15)).append("))");
                part /= 225;
            }
            terms("joint move " + j, x, 4, want.toString());
        }
    }

    /** What holds is told by moves of a role a. */
    private static void holds(String rules, int count, String want) {
        RuleSheets x = Check.started("(role a)" + rules);
        moves("moves by " + rules, x, 0, count, want);
    }

    private static void whatHolds() {
        holds("(p b)(p c)(<= (legal a ?x) (p ?x))", 2, "b c");
        holds("(p b)(p c)(q c)(<= (legal a ?x) (p ?x) (q ?x))", 1, "c");
        holds("(p b)(p c)(q c)(<= (legal a ?x) (p ?x) (not (q ?x)))", 1, "b");
        holds("(p b)(p c)(<= (legal a (f ?x ?y)) (p ?x) (p ?y) (distinct ?x ?y))", 2, "(f b c) (f c b)");
        holds("(p b)(<= (legal a ?x) (p ?x) (distinct (f ?x) (f b)))", 0, "");
        holds("(p b)(p (g b))(<= (legal a ?x) (p ?x) (distinct (g ?x) (g (g b))))", 1, "b");
        holds("(p (g b))(p b)(<= (legal a ?x) (p (g ?x)) (distinct (g ?x) b) (distinct ?x c))", 1, "b");
        holds("(p b b)(p b c)(<= (legal a ?x) (p ?x ?x))", 1, "b");
        holds("(p (f b (g c)))(p (f b d))(p (f b))(<= (legal a ?x) (p (f ?y (g ?x))))", 1, "c");
        holds("(p (f b))(p (f b c))(<= (legal a ?x) (p (f ?x)))", 1, "b");
        holds("(<= (legal a b) (not p))(<= (legal a c) (not q))(<= q (not p))", 1, "b");
        holds("(<= (legal a b) q)(<= q r)(<= r q)", 0, "");
        holds("(<= (legal a b) (not q))(<= q r)(<= r q)", 1, "b");
        holds("(<= (legal a b) (not (p (f (f (f c))))))(p c)", 1, "b");
        holds("(e 1 2)(e 2 3)(e 3 4)(e 4 2)(<= (w ?x ?y) (e ?x ?y))(<= (w ?x ?z) (w ?x ?y) (e ?y ?z))(<= (legal a ?x) (w 2 ?x))", 3, "2 3 4");
        holds("(e 1 2)(e 2 3)(e 3 4)(<= (w ?z) (e 1 ?z))(<= (v ?z) (w ?y) (e ?y ?z))(<= (w ?z) (v ?y) (e ?y ?z))"
            + "(<= (legal a (w ?x)) (w ?x))(<= (legal a (v ?x)) (v ?x))", 3, "(v 3) (w 2) (w 4)");
        holds("(n 0)(s 0 1)(s 1 2)(<= (n ?y) (n ?x) (s ?x ?y))(<= (legal a ?x) (n ?x) (not (last ?x)))(<= (last ?x) (n ?x) (not (on ?x)))(<= (on ?x) (s ?x ?y))", 2, "0 1");
        holds("(<= (legal a b) (role a) (legal c d))(<= (legal c d) (distinct a b))", 1, "b");
        holds("(<= (legal a b) (true c))(<= (legal a d) (not (true c)))(init c)", 1, "b");
        holds("(<= (legal a b) (not (true c)))(<= (legal a d) (not (not_ c)))", 2, "b d");
        holds("(<= (legal ?x ?y) (role ?x) (goal ?x ?y))(goal a 5)(goal b 6)", 1, "5");
        holds("(k 1)(k 2)(k 3)(k 4)(e 1 2)(e 2 3)(<= (w ?y) (e 1 ?y))(<= (w ?z) (w ?y) (e ?y ?z))(<= (legal a ?x) (k ?x) (not (w ?x)))", 2, "1 4");
        holds("(q role)(p b)(<= (legal a ?x) (p ?x) (not (q (f ?x))))", 1, "b");
        holds("(p role)(p init)(<= (legal a m) (p role))(<= (legal a n) (p next))(<= (legal a role) (p ?x) (distinct ?x role))"
            + "(<= (legal a (f role)) (p init) (distinct role next))(<= (legal a o) (distinct role role))", 3, "(f role) m role");
    }

    /** Conditions of both kinds of a group see atoms that come late. */
    private static void lateAtoms() {
        holds("(e 1 2)(e 2 3)(e 3 4)(e 4 5)(d 1)(d 2)(d 3)(d 4)(d 5)"
            + "(<= (w ?x ?y) (e ?x ?y))(<= (w ?x ?z) (w ?x ?y) (w ?y ?z) (d ?y))(<= (legal a ?x) (w 1 ?x))", 4, "2 3 4 5");
        holds("(d 1)(d 2)(d 3)(<= (p ?x) (q ?x))(<= (q 1))(<= (q ?y) (p ?x) (s ?x ?y))(s 1 2)(s 2 3)"
            + "(<= (both ?x ?y) (p ?x) (q ?y) (d ?x) (d ?y))(<= (legal a (f ?x ?y)) (both ?x ?y))", 9,
            "(f 1 1) (f 1 2) (f 1 3) (f 2 1) (f 2 2) (f 2 3) (f 3 1) (f 3 2) (f 3 3)");
    }

    /** More terms and names than there is room for at first, many of them of one length. */
    private static void manyTerms() {
        StringBuilder out = new StringBuilder("(role a)");
        StringBuilder want = new StringBuilder();
        for (int k = 0; k < 28; k++) {
            out.append("(d ").append(k + 10).append(')');
        }
        for (int k = 0; k < 28; k++) {
            for (int n = 0; n < 28; n++) {
                want.append(k + n == 0 ? "" : " ").append("(f (g ").append(k + 10).append(") (h (g ").append(n + 10).append(") ").append(k + 10).append("))");
            }
        }
        RuleSheets x = Check.started(out + "(<= (legal a (f (g ?x) (h (g ?y) ?x))) (d ?x) (d ?y))(<= (next ?m) (does a ?m))");
        moves("many terms", x, 0, 784, want.toString());
        Check.due("a move among them", 1, () -> x.play(777));
        Check.same("that move", "(f (g 37) (h (g 31) 37))", Check.text(x, 0, 0));
        moves("many terms again", x, 0, 784, want.toString());
        StringBuilder names = new StringBuilder();
        StringBuilder due = new StringBuilder();
        for (int k = 0; k < 60; k++) {
            String name = "" + (char) ('a' + k % 20) + (char) ('a' + k / 20) + (char) ('a' + k % 7);
            names.append("(init ").append(name).append(')');
        }
        java.util.TreeSet<String> sorted = new java.util.TreeSet<>();
        for (String part : names.toString().split("[()]")) {
            if (part.startsWith("init ")) {
                sorted.add(part.substring(5));
            }
        }
        for (String name : sorted) {
            due.append(due.length() == 0 ? "" : " ").append(name);
        }
        terms("many names", Check.started(names.toString()), 60, due.toString());
    }

    private static void longTerms() {
        String role = "(abcdefghijklmnop (abcdefghijklmnop abcdefghijklmnop) b abcdefghijklmnop)";
        RuleSheets x = Check.reading("(role " + role + ")");
        Check.same("a role of any length", role, Check.text(x, 5, 0));
        Check.refused("but its state is too great", UnsupportedOperationException.class, x::start);
        String term = "(f (g (h a bc) d) (i (j k)) lmn (o (p (q r))))";
        RuleSheets y = Check.started("(role a)(init " + term + ")(<= (legal a (m ?x)) (true (f (g ?x d) ?y lmn ?z)))");
        Check.same("a term's text", term, Check.text(y, 0, 0));
        Check.same("a move's text", "(m (h a bc))", Check.text(y, 1, 0));
    }

    /** A long game, so that what is dropped and kept of terms is worked hard. */
    private static void longGame() {
        RuleSheets x = Check.started("(role a)(init (c z 0))(legal a (add one))(legal a drop)(s 0 1)(s 1 2)(s 2 3)(s 3 0)"
            + "(<= (next (c (n ?x) ?d)) (true (c ?x ?e)) (does a (add one)) (s ?e ?d))(<= (next (c ?x 0)) (true (c (n ?x) ?e)) (does a drop))"
            + "(<= (next (c z 0)) (does a drop) (true (c z ?e)))(<= (junk (k ?x ?y) ?z) (s ?x ?z) (s ?z ?y))");
        int depth = 0;
        for (int n = 0; n < 400; n++) {
            boolean add = depth < 8 && n % 3 != 2;
            int was = depth;
            depth = add ? depth + 1 : Math.max(0, depth - 1);
            Check.due("a step of a long game", 1, () -> x.play(add ? 0 : 1));
            String number = Check.repeat("(n ", depth) + "z" + Check.repeat(")", depth);
            Check.holds("step " + n + " of a long game from " + was, Check.text(x, 0, 0).startsWith("(c " + number + " "));
        }
    }

    public static void main(String[] args) {
        heap();
        noState();
        wrongNumbers();
        order();
        goals();
        noRoles();
        joint();
        manyJoint();
        whatHolds();
        lateAtoms();
        manyTerms();
        longTerms();
        longGame();
        Check.finish();
    }
}
