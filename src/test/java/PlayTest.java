/** Promises 7 (start), 8 (moves), 9 (terminal), 10 (goal), 11 (play) and 12 (sign); what is refused of them: RefusedTest. */
public final class PlayTest {
    /** Two take one or two of a heap of four in turn; who takes the last one wins. */
    static final String HEAP = "(role first) (role second)\n"
        + "(init (heap 4)) (init (turn first))\n"
        + "(less 1 0 1) (less 1 1 2) (less 1 2 3) (less 1 3 4) (less 2 0 2) (less 2 1 3) (less 2 2 4)\n"
        + "(other first second) (other second first)\n"
        + "(<= (legal ?r (take ?n)) (true (turn ?r)) (true (heap ?h)) (less ?n ?g ?h))\n"
        + "(<= (legal ?r wait) (true (turn ?o)) (other ?o ?r))\n"
        + "(<= (next (heap ?g)) (does ?r (take ?n)) (true (heap ?h)) (less ?n ?g ?h))\n"
        + "(<= (next (turn ?r)) (true (turn ?o)) (other ?o ?r))\n"
        + "(<= terminal (true (heap 0)))\n"
        + "(<= (goal ?r 0) (true (heap 0)) (true (turn ?r)))\n"
        + "(<= (goal ?r 100) (true (heap 0)) (true (turn ?o)) (other ?o ?r))\n";

    private PlayTest() {
    }

    static String all(RuleSheets x, int what, int count) {
        StringBuilder out = new StringBuilder();
        for (int i = 0; i < count; i++) {
            out.append(i == 0 ? "" : " ").append(Check.text(x, what, i));
        }
        return out.toString();
    }

    static void terms(String what, RuleSheets x, int count, String want) {
        Check.same(what, want, all(x, 0, count));
        Check.refused(what + ": one more", IndexOutOfBoundsException.class, () -> x.sign(0, count, 0));
    }

    static void moves(String what, RuleSheets x, int role, int count, String want) {
        Check.due(what + ": how many", count, () -> x.moves(role));
        Check.same(what, want, all(x, 1 + role, count));
        Check.refused(what + ": one more", IndexOutOfBoundsException.class, () -> x.sign(1 + role, count, 0));
    }

    private static void heap() {
        RuleSheets x = Check.reading(HEAP);
        Check.due("start()", 2, x::start);
        terms("the initial state", x, 2, "(heap 4) (turn first)");
        moves("the first role's moves", x, 0, 2, "(take 1) (take 2)");
        moves("the second role's moves", x, 1, 1, "wait");
        Check.due("terminal()", 0, () -> x.terminal() ? 1 : 0);
        Check.due("goal(0)", -1, () -> x.goal(0));
        Check.due("play(1)", 2, () -> x.play(1));
        terms("the state behind", x, 2, "(heap 2) (turn second)");
        Check.refused("play(2)", IndexOutOfBoundsException.class, () -> x.play(2));
        Check.refused("play(-1)", IndexOutOfBoundsException.class, () -> x.play(-1));
        terms("the state stays", x, 2, "(heap 2) (turn second)");
        Check.due("play(1) again", 2, () -> x.play(1));
        terms("the last state", x, 2, "(heap 0) (turn first)");
        Check.due("terminal() at the end", 1, () -> x.terminal() ? 1 : 0);
        Check.due("goal(0) at the end", 0, () -> x.goal(0));
        Check.due("goal(1) at the end", 100, () -> x.goal(1));
        Check.due("start() again", 2, x::start);
        terms("the initial state again", x, 2, "(heap 4) (turn first)");
    }

    /** "IllegalStateException if there is no state": neither explore() nor a start() that is too great makes one. */
    private static void noState() {
        RuleSheets x = Check.reading(HEAP);
        Check.refused("moves(9) without a state", IllegalStateException.class, () -> x.moves(9));
        Check.refused("terminal() without a state", IllegalStateException.class, () -> x.terminal() ? 1 : 0);
        Check.refused("goal(0) without a state", IllegalStateException.class, () -> x.goal(0));
        Check.refused("play(-1) without a state", IllegalStateException.class, () -> x.play(-1));
        Check.refused("sign(6,0,0) without a state", IllegalArgumentException.class, () -> x.sign(6, 0, 0));
        Check.refused("sign(-1,0,0) without a state", IllegalArgumentException.class, () -> x.sign(-1, 0, 0));
        for (int what = 0; what < 5; what++) {
            int w = what;
            Check.refused("sign of " + w + " without a state", IllegalStateException.class, () -> x.sign(w, -1, -1));
        }
        Check.due("sign(5,1,0) without a state", 's', () -> x.sign(5, 1, 0));
        x.explore();
        Check.refused("moves(0) behind explore()", IllegalStateException.class, () -> x.moves(0));
        RuleSheets y = Check.reading("(role a)(init s)(legal a m)" + HoldsTest.atoms(20));
        Check.refused("start() too great", UnsupportedOperationException.class, y::start);
        Check.refused("terminal() behind it", IllegalStateException.class, () -> y.terminal() ? 1 : 0);
        Check.refused("play(0) behind it", IllegalStateException.class, () -> y.play(0));
        Check.refused("sign(0,0,0) behind it", IllegalStateException.class, () -> y.sign(0, 0, 0));
    }

    /** "IndexOutOfBoundsException if there is no such role", ".. no such joint move", ".. term or move, or k is below 0" */
    private static void wrongNumbers() {
        RuleSheets x = Check.started(HEAP);
        for (int r : new int[] {-1, 2, 3, 4, Integer.MAX_VALUE, Integer.MIN_VALUE}) {
            Check.refused("moves(" + r + ")", IndexOutOfBoundsException.class, () -> x.moves(r));
            Check.refused("goal(" + r + ")", IndexOutOfBoundsException.class, () -> x.goal(r));
        }
        Check.refused("sign of no third role", IndexOutOfBoundsException.class, () -> x.sign(3, 0, 0));
        Check.refused("sign of no fourth role", IndexOutOfBoundsException.class, () -> x.sign(4, 0, 0));
        Check.refused("sign(0,-1,0)", IndexOutOfBoundsException.class, () -> x.sign(0, -1, 0));
        Check.refused("sign(0,0,-1)", IndexOutOfBoundsException.class, () -> x.sign(0, 0, -1));
        Check.refused("sign(1,-1,0)", IndexOutOfBoundsException.class, () -> x.sign(1, -1, 0));
        Check.refused("sign(1,0,-1)", IndexOutOfBoundsException.class, () -> x.sign(1, 0, -1));
        Check.refused("sign(5,2,0)", IndexOutOfBoundsException.class, () -> x.sign(5, 2, 0));
        Check.refused("sign(5,-1,0)", IndexOutOfBoundsException.class, () -> x.sign(5, -1, 0));
        Check.refused("sign(5,0,-1)", IndexOutOfBoundsException.class, () -> x.sign(5, 0, -1));
        Check.refused("sign(6,-1,-1)", IllegalArgumentException.class, () -> x.sign(6, -1, -1));
        Check.refused("play(the greatest)", IndexOutOfBoundsException.class, () -> x.play(Integer.MAX_VALUE));
        Check.due("sign far behind the end", 0, () -> x.sign(0, 0, Integer.MAX_VALUE));
        Check.due("sign right behind the end", 0, () -> x.sign(0, 0, 8));
        Check.due("the last sign", ')', () -> x.sign(0, 0, 7));
        Check.due("sign behind a name's end", 0, () -> x.sign(2, 0, 4));
        Check.due("sign behind a role's end", 0, () -> x.sign(5, 0, 5));
    }

    /** More terms than there is room for at first, many of them of one length; an object is asked for a part of them. */
    private static void manyTerms() {
        StringBuilder out = new StringBuilder("(role a)");
        for (int k = 0; k < 28; k++) {
            out.append("(d ").append(k + 10).append(')');
        }
        String sheet = out + "(<= (legal a (f (g ?x) (h (g ?y) ?x))) (d ?x) (d ?y))(<= (next ?m) (does a ?m))";
        for (int k = 0; k < 28; k++) {
            RuleSheets x = Check.started(sheet);
            Check.due("how many", 784, () -> x.moves(0));
            for (int n = k % 3; n < 28; n += 3) {
                Check.same("move " + (28 * k + n), move(k, n), Check.text(x, 1, 28 * k + n));
            }
        }
        RuleSheets x = Check.started(sheet);
        Check.refused("one more", IndexOutOfBoundsException.class, () -> x.sign(1, 784, 0));
        Check.due("a move among them", 1, () -> x.play(777));
        Check.same("that move", move(27, 21), Check.text(x, 0, 0));
        Check.same("the last one again", move(27, 27), Check.text(x, 1, 783));
        Check.due("the last one", 1, () -> x.play(783));
        Check.same("that move", move(27, 27), Check.text(x, 0, 0));
        Check.same("the first one again", move(0, 0), Check.text(x, 1, 0));
    }

    private static String move(int k, int n) {
        return "(f (g " + (k + 10) + ") (h (g " + (n + 10) + ") " + (k + 10) + "))";
    }

    /** "The state becomes the initial one: how many terms it has", from whatever state it was. */
    private static void starts() {
        RuleSheets x = Check.reading(HEAP);
        for (int steps = 0; steps < 4; steps++) {
            Check.due("start() behind " + steps + " steps", 2, x::start);
            terms("the initial state", x, 2, "(heap 4) (turn first)");
            Check.due("its moves", 2, () -> x.moves(0));
            for (int n = 0; n < steps; n++) {
                x.play(0);
            }
        }
        Check.due("start() of an empty state", 0, Check.reading("p")::start);
        Check.leaves("start() without a sheet", IllegalStateException.class, () -> Check.with(HEAP), RuleSheets::start);
        Check.leaves("start() of what is too great", UnsupportedOperationException.class, () -> Check.reading("(init a)" + HoldsTest.atoms(22)), RuleSheets::start);
    }

    /** "How many moves role r has in the state": none, one, and many; and whatever the state was asked before. */
    private static void countsOfMoves() {
        RuleSheets x = Check.started(HEAP);
        int[][] due = {{2, 1}, {1, 2}, {2, 1}, {1, 1}, {0, 1}};
        for (int n = 0; n < due.length; n++) {
            int step = n;
            for (int r = 0; r < 2; r++) {
                int role = r;
                Check.due("moves(" + r + ") behind " + n + " steps", due[step][role], () -> x.moves(role));
                Check.due("moves(" + r + ") once more", due[step][role], () -> x.moves(role));
            }
            if (n + 1 < due.length) {
                Check.due("play(0)", 2, () -> x.play(0));
            }
        }
        Check.refused("play(0) where a role has no move", IndexOutOfBoundsException.class, () -> x.play(0));
    }

    /** "Whether the state is terminal", and only the state that there is now. */
    private static void terminals() {
        RuleSheets x = Check.started("(role a)(legal a m)(init s)(<= (next t) (true s))(<= (next s) (true t))(<= terminal (true t))");
        for (int n = 0; n < 6; n++) {
            Check.due("terminal() behind " + n + " steps", n % 2, () -> x.terminal() ? 1 : 0);
            Check.due("terminal() once more", n % 2, () -> x.terminal() ? 1 : 0);
            x.play(0);
        }
        x.play(0);
        Check.due("terminal() at the end", 1, () -> x.terminal() ? 1 : 0);
        x.start();
        Check.due("terminal() behind start()", 0, () -> x.terminal() ? 1 : 0);
        String great = "(init s)" + HoldsTest.atoms(21);
        Check.leaves("terminal() of what is too great", UnsupportedOperationException.class, () -> Check.started(great), y -> y.terminal() ? 1 : 0);
        Check.due("terminal() of what just isn't", 0, () -> Check.started("(init s)" + HoldsTest.atoms(20)).terminal() ? 1 : 0);
    }

    /** "The goal of role r in the state; NONE if there is none, -2 if there are several." */
    private static void goals() {
        String sheet = "(role a)(role b)(role c)(init s)(legal a m)(legal b m)(legal c m)(<= (next t) (does a m))"
            + "(<= (goal a 0) (true s))(<= (goal a 1) (true t))(<= (goal b 100) (true s))(<= (goal b 99) (true s))(goal c x)(<= (goal c 2) (true t))";
        RuleSheets x = Check.started(sheet);
        int[][] due = {{0, -2, -1}, {1, -1, 2}};
        for (int n = 0; n < 2; n++) {
            for (int r = 0; r < 3; r++) {
                int role = r;
                int want = due[n][r];
                Check.due("goal(" + r + ") behind " + n + " steps", want, () -> x.goal(role));
            }
            x.play(0);
        }
    }

    /** "The state becomes the next one by joint move j (terminal or not): how many terms it has." */
    private static void playsOn() {
        RuleSheets x = Check.started("(role a)(legal a m)(legal a n)terminal(<= (next (f ?m)) (does a ?m))(<= (next s) (does a n))");
        Check.due("a terminal state", 1, () -> x.terminal() ? 1 : 0);
        Check.due("is played on", 1, () -> x.play(0));
        terms("by the first move", x, 1, "(f m)");
        Check.due("and on", 2, () -> x.play(1));
        terms("by the last move", x, 2, "(f n) s");
        Check.due("it is terminal still", 1, () -> x.terminal() ? 1 : 0);
        Check.leaves("play(2)", IndexOutOfBoundsException.class, () -> Check.started("(role a)(legal a m)(legal a n)terminal"), y -> y.play(2));
    }

    private static void signs(String what, RuleSheets x, int from, int i, String text) {
        for (int k = 0; k < text.length(); k++) {
            int place = k;
            Check.due("sign " + k + " of " + what, text.charAt(k), () -> x.sign(from, i, place));
        }
        for (int k : new int[] {text.length(), text.length() + 1, text.length() + 48, 2000, Integer.MAX_VALUE}) {
            Check.due("sign " + k + " of " + what, 0, () -> x.sign(from, i, k));
        }
    }

    /** "Sign k of a text (0 behind its end): of what = 0 the state's i-th term, 1 + r the i-th move of role r, 5 role i." */
    private static void everySign() {
        String[] texts = {"a", "abcdefghijklmnop", "(f a)", "(f ab cd ef)", "(f (g a) b (h c d) (i (j k) l m n))", "(f (g (h (i (j (k (l (m (n z)))))))))"};
        for (String text : texts) {
            RuleSheets x = Check.started("(role r)(role " + text + ")(init b)(init " + text + ")(legal r zz)(<= (legal r ?x) (true ?x) (distinct ?x b))");
            signs("a term", x, 0, 0, text);
            signs("a move", x, 1, 0, text);
            signs("another move", x, 1, 1, "zz");
            signs("a role", x, 5, 0, "r");
            signs("another role", x, 5, 1, text);
        }
        RuleSheets x = Check.started("(role a)(role b)(role c)(role d)(legal a ma)(legal b mb)(legal b nb)(legal c mc)(legal d md)(legal d nd)");
        signs("the first role's move", x, 1, 0, "ma");
        signs("the second role's move", x, 2, 1, "nb");
        signs("the third role's move", x, 3, 0, "mc");
        signs("the fourth role's move", x, 4, 1, "nd");
        signs("the fourth role", x, 5, 3, "d");
        int[] moves = {1, 2, 1, 2};
        for (int r = 0; r < 4; r++) {
            int role = r;
            Check.refused("no further move of role " + r, IndexOutOfBoundsException.class, () -> x.sign(1 + role, moves[role], 0));
        }
    }

    private static void longTerms() {
        String role = "(abcdefghijklmnop (abcdefghijklmnop abcdefghijklmnop) b abcdefghijklmnop)";
        RuleSheets x = Check.reading("(role " + role + ")");
        Check.same("a role of any length", role, Check.text(x, 5, 0));
        Check.refused("but its state is too great", UnsupportedOperationException.class, x::start);
        String term = "(f (g (h a bc) d) (i (j k)) lmn (o (p (q r))))";
        RuleSheets y = Check.started("(role a)(init " + term + ")(<= (legal a (m ?x)) (true (f (g ?x d) ?y lmn ?z)))");
        Check.same("a term's text", term, Check.text(y, 0, 0));
        Check.same("a move's text", "(m (h a bc))", Check.text(y, 1, 0));
    }

    /** Long games, so that what is dropped and kept of terms is worked hard. */
    private static void longGames() {
        String sheet = "(role a)(init (c z 0))(legal a (add one))(legal a drop)(s 0 1)(s 1 2)(s 2 3)(s 3 0)"
            + "(<= (next (c (n ?x) ?d)) (true (c ?x ?e)) (does a (add one)) (s ?e ?d))(<= (next (c ?x 0)) (true (c (n ?x) ?e)) (does a drop))"
            + "(<= (next (c z 0)) (does a drop) (true (c z ?e)))(<= (junk (k ?x ?y) ?z) (s ?x ?z) (s ?z ?y))";
        for (int steps = 0; steps <= 320; steps += steps < 12 ? 1 : 7) {
            RuleSheets x = Check.started(sheet);
            int depth = 0;
            int digit = 0;
            for (int n = 0; n < steps; n++) {
                boolean add = depth < 8 && n % 3 != 2;
                depth = add ? depth + 1 : Math.max(0, depth - 1);
                digit = add ? (digit + 1) % 4 : 0;
                Check.due("step " + n + " of a long game", 1, () -> x.play(add ? 0 : 1));
            }
            String number = Check.repeat("(n ", depth) + "z" + Check.repeat(")", depth);
            Check.same("the end of a game of " + steps, "(c " + number + " " + digit + ")", Check.text(x, 0, 0));
        }
    }

    public static void main(String[] args) {
        heap();
        noState();
        wrongNumbers();
        starts();
        countsOfMoves();
        terminals();
        goals();
        playsOn();
        everySign();
        manyTerms();
        longTerms();
        longGames();
        Check.finish();
    }
}
