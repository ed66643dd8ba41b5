/** What is too great, at its edges, in start, moves, terminal, goal, play, sign and explore. */
public final class LimitsTest {
    private LimitsTest() {
    }

    private static String facts(String name, int count) {
        StringBuilder out = new StringBuilder();
        for (int k = 0; k < count; k++) {
            out.append('(').append(name).append(' ').append(k).append(')');
        }
        return out.toString();
    }

    private static void starts(String what, String text, int count) {
        Check.due("start() " + what, count, Check.reading(text)::start);
    }

    private static void tooGreat(String what, String text) {
        RuleSheets x = Check.reading(text);
        Check.refused("start() " + what, UnsupportedOperationException.class, x::start);
        Check.refused("no state " + what, IllegalStateException.class, () -> x.moves(0));
        Check.refused("explore() " + what, UnsupportedOperationException.class, x::explore);
        Check.refused("explore() again " + what, UnsupportedOperationException.class, x::explore);
        Check.refused("states unknown " + what, IllegalStateException.class, () -> x.defect(0));
    }

    /** 9 + 729 + 15 + 225 atoms, and so many more. */
    private static String atoms(int more) {
        return facts("d", 9) + "(<= (p ?x ?y ?z) (d ?x) (d ?y) (d ?z))" + facts("e", 15) + "(<= (q ?x ?y) (e ?x) (e ?y))" + facts("r", more);
    }

    private static void atoms() {
        starts("with 1000 atoms", atoms(22), 0);
        tooGreat("with 1001 atoms", atoms(23));
        starts("with 1000 atoms, init too", atoms(21) + "(init a)", 1);
        RuleSheets x = Check.started(atoms(19) + "(role a)(init a)(<= (legal a b) (not (true a)))");
        Check.due("998 atoms and true", 0, () -> x.moves(0));
        RuleSheets y = Check.started(atoms(20) + "(role a)(init a)(<= (legal a b) (true a))");
        greatState(y);
        RuleSheets z = Check.started(atoms(18) + "(role a)(init a)(<= (legal a b) (true a))");
        Check.due("1000 atoms with the move", 1, () -> z.moves(0));
        Check.refused("1001 atoms with does", UnsupportedOperationException.class, () -> z.play(0));
        Check.refused("no joint move", IndexOutOfBoundsException.class, () -> z.play(1));
        Check.due("the state stays", 'a', () -> z.sign(0, 0, 0));
        Check.due("its moves stay", 'b', () -> z.sign(1, 0, 0));
        Check.refused("explore() of it", UnsupportedOperationException.class, z::explore);
        Check.due("the state stays still", 1, () -> z.moves(0));
    }

    /** A state that there is, but for which what holds is too great. */
    private static void greatState(RuleSheets x) {
        for (int n = 0; n < 2; n++) {
            Check.refused("moves(0) too great", UnsupportedOperationException.class, () -> x.moves(0));
            Check.refused("moves(1) of no role", IndexOutOfBoundsException.class, () -> x.moves(1));
            Check.refused("terminal() too great", UnsupportedOperationException.class, () -> x.terminal() ? 1 : 0);
            Check.refused("goal(0) too great", UnsupportedOperationException.class, () -> x.goal(0));
            Check.refused("goal(-1) of no role", IndexOutOfBoundsException.class, () -> x.goal(-1));
            Check.refused("play(0) too great", UnsupportedOperationException.class, () -> x.play(0));
            Check.refused("play of a great number too great", UnsupportedOperationException.class, () -> x.play(Integer.MAX_VALUE));
            Check.refused("play(-1)", IndexOutOfBoundsException.class, () -> x.play(-1));
            Check.refused("sign(1,99,0) too great", UnsupportedOperationException.class, () -> x.sign(1, 99, 0));
            Check.refused("sign(1,-1,0)", IndexOutOfBoundsException.class, () -> x.sign(1, -1, 0));
            Check.refused("sign(1,0,-1)", IndexOutOfBoundsException.class, () -> x.sign(1, 0, -1));
            Check.refused("sign(2,0,0) of no role", IndexOutOfBoundsException.class, () -> x.sign(2, 0, 0));
            Check.due("sign(0,0,0) of a state too great", 'a', () -> x.sign(0, 0, 0));
            Check.refused("sign(0,1,0)", IndexOutOfBoundsException.class, () -> x.sign(0, 1, 0));
            Check.due("sign(5,0,0) of a state too great", 'a', () -> x.sign(5, 0, 0));
            Check.refused("sign(5,1,0)", IndexOutOfBoundsException.class, () -> x.sign(5, 1, 0));
            Check.refused("explore() too great", UnsupportedOperationException.class, x::explore);
            Check.due("start() is well", 1, x::start);
        }
    }

    private static void texts() {
        String most = "(abcdefghijklmnop abcdefghijklmnop abcdefghijkl)";
        Check.holds("48 signs", most.length() == 48);
        starts("with a term of 48 signs", "(init " + most + ")", 1);
        String more = most.replace("l)", "lm)");
        tooGreat("with a term of 49 signs", "(init " + more + ")");
        tooGreat("with 49 signs of a relation not asked for", "(p a " + more + ")");
        tooGreat("with 49 signs that a rule brings", "(p (c abcdefghijklm))(<= (q (abcdefghijklmno (c ?x) ?x)) (p (c ?x)))");
        starts("with 48 signs that a rule brings", "(p (c abcdefghijklm))(<= (q (abcdefghijklmn (c ?x) ?x)) (p (c ?x)))", 0);
        starts("with a long text that must not hold, or be distinct", "(p b)(<= (init a) (p ?x) (not (q " + more + ")) (distinct ?x " + more + "))", 1);
        starts("with a long text in a condition that doesn't hold", "(<= (init a) (p " + more + "))(init b)", 1);
        tooGreat("with terms that grow", "(q a)(<= (p (f ?x ?y)) (q ?x) (q ?y))"
            + "(<= (w (abcdefghijklmnop (abcdefghijklmnop ?x) abcdef)) (p ?x))");
    }

    /** Terms that grow by a move, until they are too great. */
    private static void growing() {
        RuleSheets x = Check.started("(role a)(init z)(legal a m)(<= (next (f ?x)) (true ?x) (does a m))");
        for (int n = 1; n <= 11; n++) {
            Check.due("step " + n, 1, () -> x.play(0));
        }
        Check.same("45 signs", Check.repeat("(f ", 11) + "z" + Check.repeat(")", 11), Check.text(x, 0, 0));
        Check.refused("49 signs", UnsupportedOperationException.class, () -> x.play(0));
        Check.same("the state stays", Check.repeat("(f ", 11) + "z" + Check.repeat(")", 11), Check.text(x, 0, 0));
        Check.due("its moves too", 'm', () -> x.sign(1, 0, 0));
        Check.refused("all states", UnsupportedOperationException.class, x::explore);
        Check.same("the state stays still", Check.repeat("(f ", 11) + "z" + Check.repeat(")", 11), Check.text(x, 0, 0));
        Check.due("start() again", 1, x::start);
        RuleSheets y = Check.started("(role a)(init z)(legal a m)(<= (next (f ?x)) (true ?x))");
        for (int n = 1; n <= 11; n++) {
            Check.due("step " + n + " without does", 1, () -> y.play(0));
        }
        Check.refused("next is worked out for moves, too", UnsupportedOperationException.class, () -> y.moves(0));
    }

    /** Relations of 100, 50 and 60 atoms. */
    private static String rooms(String more) {
        return facts("d", 10) + facts("e", 5) + facts("g", 6) + "(<= (xx ?a ?b) (d ?a) (d ?b))(<= (yy ?a ?b) (d ?a) (e ?b))(<= (zz ?a ?b) (d ?a) (g ?b))" + more;
    }

    private static void rooms() {
        starts("with a room of 300000", rooms("(<= (init ?a) (xx ?a ?b) (yy ?a ?b) (zz ?b ?c))"), 10);
        tooGreat("with a room of 300001", facts("d", 22) + "(<= (xx ?a ?b) (d ?a) (d ?b))" + facts("xx x", 7)
            + facts("h", 2) + "(<= (yy ?a ?b) (d ?a) (h ?b))" + facts("yy x", 3) + facts("m", 6) + "(<= (zz ?a ?b) (h ?a) (m ?b))(zz x x)"
            + "(<= w (xx ?a n) (yy ?b n) (zz ?c n))");
        starts("with a room of 300000 of a recursive rule", rooms("(<= (c ?x ?y) (xx ?x ?y))(<= (c ?x ?y) (c ?x ?y) (yy ?a ?b) (zz ?c ?d))"), 0);
        tooGreat("with a room of 305000", rooms("(zz a b)(<= (init ?a) (xx ?a ?b) (yy ?a ?b) (zz ?b ?c))"));
        tooGreat("with a room of 10 to the 16th", rooms("(<= init_ (xx ?a ?b) (xx ?c ?d) (xx ?e ?f) (xx ?g ?h) (xx ?a ?b) (xx ?a ?b) (xx ?a ?b) (xx ?a ?b))"));
        starts("with a room of 0 at last", rooms("(init s)(<= w (xx ?a ?b) (xx ?c ?d) (xx ?e ?f) (xx ?g ?h) (none ?a))"), 1);
        starts("with conditions that are no part of the room", rooms("(init s)(<= w (xx ?a ?b) (yy ?c ?d) (zz ?e ?f) (not (xx ?a ?c)) (distinct ?a ?b))"), 1);
        starts("with a room that matches nothing", rooms("(init s)(<= w (xx no ?b) (yy ?b ?d) (zz ?d ?f))"), 1);
        tooGreat("with a room of a rule of a group", rooms("(<= (c ?x ?y) (xx ?x ?y))(<= (c ?x ?y) (c ?x ?y) (xx ?x ?y) (c ?y ?x))"));
        RuleSheets x = Check.started(rooms("(role a)(init a)(<= (legal a m) (true a) (xx ?a ?b) (xx ?c ?d) (yy ?e ?f))"));
        greatState(x);
    }

    private static void terms() {
        String pairs = facts("d", 6) + facts("e", 10);
        starts("with 60 terms", pairs + "(<= (init (c ?x ?y)) (d ?x) (e ?y))", 60);
        tooGreat("with 61 terms", pairs + "(<= (init (c ?x ?y)) (d ?x) (e ?y))(init c)");
        RuleSheets x = Check.started(pairs + "(role a)(init a)(legal a m)(legal a n)(<= (next (c ?x ?y)) (d ?x) (e ?y))(<= (next c) (does a n))");
        Check.refused("a next state of 61 terms", UnsupportedOperationException.class, () -> x.play(1));
        Check.due("the state stays", 'a', () -> x.sign(0, 0, 0));
        Check.refused("so all states are too great", UnsupportedOperationException.class, x::explore);
        Check.due("a next state of 60 terms", 60, () -> x.play(0));
        Check.same("its last term", "(c 5 9)", Check.text(x, 0, 59));
        RuleSheets y = Check.started(pairs + "(role a)(init a)(legal a m)(<= (next (c ?x ?y)) (d ?x) (e ?y))(next c)");
        Check.due("61 terms of next are no state", 1, () -> y.moves(0));
        Check.refused("but by a move", UnsupportedOperationException.class, () -> y.play(0));
    }

    /** A counter through 10 times so many states; more at its end if asked for. */
    private static String counter(int most, String more) {
        StringBuilder out = new StringBuilder("(role a)(role b)(legal a go)(legal b go)(init (c 0 0))");
        for (int k = 0; k < most - 1; k++) {
            out.append("(s ").append(k).append(' ').append(k + 1).append(')').append(k < 9 ? "(t " + k + " " + (k + 1) + ")" : "");
        }
        return out + "(<= (next (c ?x ?z)) (true (c ?x ?y)) (s ?y ?z))(<= (next (c ?z 0)) (true (c ?x " + (most - 1) + ")) (t ?x ?z))" + more;
    }

    private static void states() {
        String over = "(<= terminal (true (c 9 29)))(goal a 25)(goal b 75)";
        RuleSheets x = Check.reading(counter(30, over));
        Check.due("explore() of 300 states", 300, x::explore);
        Check.due("its defect", 0, () -> x.defect(0));
        Check.due("the value from far", 25, () -> x.value(0));
        Check.due("the last next", 299, () -> x.next(298, 0));
        Check.due("the last is terminal", 1, () -> x.state(299, 1));
        RuleSheets y = Check.reading(counter(30, "(<= (next end) (true (c 9 29)))(<= terminal (true end))"));
        Check.refused("explore() of 301 states", UnsupportedOperationException.class, y::explore);
        Check.due("its start is well", 1, y::start);
        Check.refused("they are not known", IllegalStateException.class, () -> y.state(0, 0));
        RuleSheets z = Check.reading(counter(30, "(<= (next (c 0 7)) (true (c 9 29)))"));
        Check.due("explore() of 300 states in a circle", 300, z::explore);
        Check.due("the defect", 6, () -> z.defect(0));
        Check.due("the least state of the circle", 7, () -> z.defect(1));
    }

    private static void jointMoves() {
        String forty = "(role a)(role b)" + facts("d", 5) + facts("e", 8) + "(<= (legal a (m ?x ?y)) (d ?x) (e ?y))(legal b no)(init s)";
        RuleSheets x = Check.reading(forty);
        Check.due("explore() with 40 joint moves", 2, x::explore);
        Check.due("how many there are", 40, () -> x.state(0, 2));
        Check.due("the last of them", 1, () -> x.next(0, 39));
        Check.refused("no more", IndexOutOfBoundsException.class, () -> x.next(0, 40));
        Check.refused("explore() with 41", UnsupportedOperationException.class, Check.reading(forty + "(legal a m)")::explore);
        Check.due("explore() with 41 of a terminal state", 1, Check.reading(forty + "(legal a m)terminal")::explore);
        Check.refused("explore() with 80", UnsupportedOperationException.class, Check.reading(forty + "(legal b m)")::explore);
        Check.due("explore() with a role without moves", 1, Check.reading(forty.replace("(legal b no)", "") + "(legal a m)")::explore);
    }

    /**
     * A chain of 20 states, so 40 times all is worked out: 39 times with a state, 19 times with a move.
     * The rooms of rules without state and move make up 749990 each time; terminal's is 1 for each
     * state, and next's 19 for each move: 40 * 749990 + 39 + 19 * 19 = 30000000.
     */
    private static String work(String more) {
        StringBuilder out = new StringBuilder("(role a)(init (c 0))(legal a go)");
        for (int k = 0; k < 19; k++) {
            out.append("(s ").append(k).append(' ').append(k + 1).append(')');
        }
        out.append("(<= (next (c ?y)) (true (c ?x)) (s ?x ?y) (does a go))(<= terminal (true (c 19)))");
        out.append(facts("d", 10)).append(facts("e", 3)).append("(<= (x ?a ?b) (d ?a) (d ?b))");
        String[] rooms = {"xxde", "xxde", "xxd", "xxe", "xx", "xdee", "xe", "xe", "x", "x", "de", "ee", "ee", "e", "e", ""};
        for (String room : rooms) {
            out.append("(<= z");
            for (char c : room.toCharArray()) {
                out.append(c == 'x' ? "(x n ?x)" : "(" + c + " n)");
            }
            out.append(')');
        }
        return out + more;
    }

    private static void works() {
        Check.due("explore() with work of 30000000", 20, Check.reading(work(""))::explore);
        String oneMore = work("").replaceFirst("\\(<= z\\(e n\\)\\(e n\\)\\)", "(<= z(does a n)(s ?x ?y))");
        Check.refused("explore() with work of 30000001", UnsupportedOperationException.class, Check.reading(oneMore)::explore);
        RuleSheets x = Check.started(work(""));
        Check.due("its moves", 1, () -> x.moves(0));
        Check.due("explore() of it with a state", 20, x::explore);
        Check.refused("explore() with work of 30000019", UnsupportedOperationException.class, Check.reading(work("(<= z (does n ?x))"))::explore);
        Check.refused("explore() with work of 30000039", UnsupportedOperationException.class, Check.reading(work("(<= z (true n))"))::explore);
        Check.refused("explore() with work of 30000040", UnsupportedOperationException.class, Check.reading(work("z"))::explore);
        Check.due("explore() with a room of 0 more", 20, Check.reading(work("(<= z (none n))"))::explore);
        Check.due("explore() with less", 20, Check.reading(work("").replace("(<= z)", "(<= z (true n))"))::explore);
    }

    public static void main(String[] args) {
        atoms();
        texts();
        growing();
        rooms();
        terms();
        states();
        jointMoves();
        works();
        Check.finish();
    }
}
