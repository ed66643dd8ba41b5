import java.util.TreeSet;

/** Terms 4, STATES: a test for each of its sentences, at the edges that it names. */
public final class StatesTest {
    private StatesTest() {
    }

    private static String roles(RuleSheets x) {
        return PlayTest.all(x, 5, x.sheet(1));
    }

    /** "ROLES are the terms of the rules whose head is of role, in the order of the sheet (the first four that are unlike ..)" */
    private static void roles() {
        Check.same("no role", "", roles(Check.reading("(p role)")));
        Check.same("roles in the order of the sheet", "b a", roles(Check.reading("(role b) p (role a)")));
        Check.same("roles that are unlike", "b a (f a)", roles(Check.reading("(role b)(role a)(role b)(<= (role a))(role (f a))(role (f a))")));
        Check.same("four roles", "d c b a", roles(Check.reading("(role d)(role c)(role b)(role a)")));
        Check.same("a fifth", "d c b a", roles(Check.reading("(role d)(role c)(role b)(role a)(role e)")));
        Check.same("a fifth behind one told twice", "d c b a", roles(Check.reading("(role d)(role c)(role d)(role b)(role c)(role a)(role d)(role e)")));
        Check.same("roles of one name", "(f a) (f b) f (f a b)", roles(Check.reading("(role (f a))(role (f b))(role f)(role (f a b))")));
    }

    /** "further ones have no part in moves and goals" */
    private static void fifthRole() {
        String sheet = "(role a)(role b)(role c)(role d)(role e)(<= (legal ?r m) (role ?r) (distinct ?r e))(<= (goal ?r 7) (role ?r))"
            + "(<= (next (was ?r)) (role ?r))(<= (next (did ?r)) (does ?r ?m))";
        RuleSheets x = Check.started(sheet);
        Check.due("the fourth role's moves", 1, () -> x.moves(3));
        Check.due("the fourth role's goal", 7, () -> x.goal(3));
        Check.refused("the fifth role's moves", IndexOutOfBoundsException.class, () -> x.moves(4));
        Check.refused("the fifth role's goal", IndexOutOfBoundsException.class, () -> x.goal(4));
        Check.due("a joint move without the fifth role", 9, () -> x.play(0));
        PlayTest.terms("which is a role for rules still", x, 9, "(did a) (did b) (did c) (did d) (was a) (was b) (was c) (was d) (was e)");
        Check.refused("no other joint move", IndexOutOfBoundsException.class, () -> x.play(1));
    }

    /** "The INITIAL state: all t with init(t), of no state and no moves" */
    private static void initial() {
        Check.due("no init", 0, Check.reading("(role a)")::start);
        Check.due("init of one", 1, Check.reading("(init a)")::start);
        Check.due("init told twice", 1, Check.reading("(init a)(<= (init a))(<= (init a) (distinct b c))")::start);
        Check.due("init by what holds", 2, Check.reading("(p a)(p b)(p c)(<= (init ?x) (p ?x) (not (q ?x)))(q b)")::start);
        RuleSheets x = Check.started("(role a)(init s)(legal a m)(<= (next t) (does a m))(<= (next ?x) (true ?x))");
        Check.due("play", 2, () -> x.play(0));
        Check.due("the initial state again", 1, x::start);
        PlayTest.terms("its term", x, 1, "s");
    }

    /** "the MOVES of a role r are all m with legal(r, m)" */
    private static void moves() {
        RuleSheets x = Check.started("(role a)(role b)(role c)(legal b m)(legal a n)(legal a m)(legal z o)(legal a n)(legal (f a) q)");
        PlayTest.moves("moves of a", x, 0, 2, "m n");
        PlayTest.moves("moves of b", x, 1, 1, "m");
        PlayTest.moves("moves of c", x, 2, 0, "");
    }

    /** "it is TERMINAL if terminal holds" */
    private static void terminal() {
        Check.due("terminal holds", 1, () -> Check.started("terminal").terminal() ? 1 : 0);
        Check.due("terminal doesn't hold", 0, () -> Check.started("(<= terminal p)").terminal() ? 1 : 0);
        Check.due("there is no terminal", 0, () -> Check.started("(p terminal)").terminal() ? 1 : 0);
        Check.due("terminal by the state", 1, () -> Check.started("(init s)(<= terminal (true s))").terminal() ? 1 : 0);
        Check.due("terminal by another state", 0, () -> Check.started("(init t)(<= terminal (true s))").terminal() ? 1 : 0);
    }

    private static void goal(String goals, int want) {
        StringBuilder sheet = new StringBuilder("(role a)");
        for (String term : goals.split(",")) {
            sheet.append("(goal a ").append(term).append(')');
        }
        Check.due("goal by " + goals, want, () -> Check.started(sheet.toString()).goal(0));
    }

    /** "the GOALS of r are all n, names of one to three digits, up to 100 as numbers" */
    private static void goals() {
        for (int n = 0; n <= 100; n += n < 9 || n >= 98 ? 1 : 89) {
            goal(Integer.toString(n), n);
        }
        String[] well = {"00", "000", "01", "001", "09", "099", "010"};
        int[] its = {0, 0, 1, 1, 9, 99, 10};
        for (int k = 0; k < well.length; k++) {
            goal(well[k], its[k]);
        }
        for (String none : new String[] {"101", "110", "199", "200", "999", "0000", "0001", "0100", "1000", "9999999999999999", "0000000000000000", "4294967296",
            "a", "1a", "a1", "_1", "1_", "1_0", "(f 1)", "(1 1)", "(1 1 1)"}) {
            goal(none, -1);
        }
        Check.due("no goal", -1, () -> Check.started("(role a)").goal(0));
        Check.due("a goal of another", -1, () -> Check.started("(role a)(goal b 5)(goal (f a) 6)").goal(0));
    }

    /** "(as numbers, each once)" */
    private static void goalsAsNumbers() {
        goal("5,05,005", 5);
        goal("0,00,000", 0);
        goal("100,101", 100);
        goal("100,0100", 100);
        goal("5,x,(f 6),6a", 5);
        goal("5,6", -2);
        goal("0,1", -2);
        goal("05,6", -2);
        goal("99,100", -2);
        goal("5,05,6", -2);
        goal("5,6,5", -2);
        goal("1,2,3", -2);
        goal("x,101,7,07", 7);
        RuleSheets x = Check.started("(role a)(role b)(goal a 5)(goal b 6)(goal b 7)(goal c 8)");
        Check.due("a goal of one role", 5, () -> x.goal(0));
        Check.due("several of another", -2, () -> x.goal(1));
    }

    /** "With a move for each role done, too, the NEXT state: all t with next(t)" */
    private static void next() {
        RuleSheets x = Check.started("(role a)(role b)(init s)(legal a m)(legal b n)(<= (next (both ?x ?y)) (does a ?x) (does b ?y) (true s))(next (f u))(<= (next w) (not (true s)))");
        Check.due("the next state", 2, () -> x.play(0));
        PlayTest.terms("its terms", x, 2, "(both m n) (f u)");
        Check.due("the one behind", 2, () -> x.play(0));
        PlayTest.terms("its terms", x, 2, "(f u) w");
        RuleSheets y = Check.started("(role a)(init s)(legal a m)");
        Check.due("an empty one", 0, () -> y.play(0));
        Check.due("and the next one", 0, () -> y.play(0));
        Check.refused("it has no term", IndexOutOfBoundsException.class, () -> y.sign(0, 0, 0));
    }

    /** "A state of more than 60 terms is too great" */
    private static void sixtyTerms() {
        String pairs = Check.facts("d", 6) + Check.facts("e", 10);
        String sixty = pairs + "(<= (init (c ?x ?y)) (d ?x) (e ?y))";
        Check.due("59 terms", 59, Check.reading(sixty.replace("(e ?y))", "(e ?y) (not (no ?x ?y)))(no 0 0)"))::start);
        Check.due("60 terms", 60, Check.reading(sixty)::start);
        Check.leaves("start() of 61 terms", UnsupportedOperationException.class, () -> Check.reading(sixty + "(init c)"), RuleSheets::start);
        Check.leaves("explore() of 61 terms", UnsupportedOperationException.class, () -> Check.reading(sixty + "(init c)"), RuleSheets::explore);
        Check.same("the last of 60", "(c 5 9)", Check.text(Check.started(sixty), 0, 59));
        Check.refused("no more", IndexOutOfBoundsException.class, () -> Check.started(sixty).sign(0, 60, 0));
        String byMove = pairs + "(role a)(init a)(legal a m)(legal a n)(<= (next (c ?x ?y)) (d ?x) (e ?y))(<= (next c) (does a n))";
        Check.due("a next state of 60 terms", 60, () -> Check.started(byMove).play(0));
        Check.leaves("play() to 61 terms", UnsupportedOperationException.class, () -> Check.started(byMove), x -> x.play(1));
        Check.leaves("explore() to 61 terms", UnsupportedOperationException.class, () -> Check.started(byMove), RuleSheets::explore);
        RuleSheets x = Check.started(byMove);
        Check.refused("61 terms", UnsupportedOperationException.class, () -> x.play(1));
        Check.due("60 terms behind that", 60, () -> x.play(0));
        RuleSheets y = Check.started(pairs + "(role a)(init a)(legal a m)(<= (next (c ?x ?y)) (d ?x) (e ?y))(next c)");
        Check.due("61 terms of next are no state", 1, () -> y.moves(0));
        Check.refused("but by a move", UnsupportedOperationException.class, () -> y.play(0));
    }

    /** "Terms are in the order of their texts, sign by sign (a text that ends goes first)" */
    private static void order() {
        String[][] pairs = {{"a", "b"}, {"a", "aa"}, {"a", "a0"}, {"a0", "a_"}, {"a_", "aa"}, {"9", "_"}, {"_", "a"}, {"0", "9"}, {"10", "9"}, {"9", "a"}, {"1", "10"},
            {"z", "zz"}, {"az", "b"}, {"(z z)", "0"}, {"(z z)", "a"}, {"(a b)", "(b a)"}, {"(a z)", "(aa a)"}, {"(a b)", "(a c)"}, {"(a b)", "(a bb)"}, {"(a b)", "(a b0)"},
            {"(a b c)", "(a b)"}, {"(a b z)", "(a b)"}, {"(a b c d e)", "(a b c d)"}, {"(a b c)", "(a ba)"}, {"(a b)", "(a b_)"}, {"(a (z z))", "(a a)"},
            {"(a (b c) d)", "(a (b c))"}, {"(a (b c d))", "(a (b c))"}, {"(a (b c d) e)", "(a (b c) a)"}, {"(a b (c d))", "(a b c)"}, {"(a b c)", "(a b d)"},
            {"(a (b c) z)", "(a (b d) a)"}, {"(a b z)", "(a c a)"}, {"(a (b (c d)))", "(a (b c))"}, {"(a b)", "a"}, {"(a0 b)", "(aa b)"}, {"(a a)", "(a0 a)"}, {"(a a a a a)", "(a a a a b)"}};
        for (String[] pair : pairs) {
            Check.holds(pair[0] + " goes ahead of " + pair[1], pair[0].compareTo(pair[1]) < 0);
            PlayTest.terms(pair[0] + " and " + pair[1], Check.started("(init " + pair[0] + ")(init " + pair[1] + ")"), 2, pair[0] + " " + pair[1]);
            PlayTest.terms(pair[1] + " and " + pair[0], Check.started("(init " + pair[1] + ")(init " + pair[0] + ")"), 2, pair[0] + " " + pair[1]);
        }
    }

    /** Names that begin alike are unlike, whichever comes first. */
    private static void beginnings() {
        String letters = "abcdefghijklmnopqrstuvwxyz0123456789_";
        for (int first = 0; first < 37; first++) {
            for (int half = 0; half < 2; half++) {
                StringBuilder text = new StringBuilder();
                for (int second = 0; second < 18; second++) {
                    String name = "" + letters.charAt(first) + letters.charAt(second + 18 * half);
                    text.append(half == 0 ? "(init " + name + "z)(init " + name + ")" : "(init " + name + ")(init " + name + "z)").append("(init ").append(name).append("zzz)");
                }
                Check.due("names that begin with " + letters.charAt(first), 54, Check.reading(text.toString())::start);
            }
        }
    }

    /** "A state's terms, and moves, are in that order." */
    private static void orderOfAll() {
        String all = "(init b)(init ab)(init a)(init a_)(init a0)(init aa)(init 9)(init 10)(init _)"
            + "(init (b c))(init (a c))(init (a c d))(init (a c d e))(init (a b z))(init (ab c))"
            + "(init (a (c d)))(init (a (c d e) b))(init (a ca))(init (b c d))(init (b (b c)))(init z)(init z)";
        String want = "(a (c d e) b) (a (c d)) (a b z) (a c d e) (a c d) (a c) (a ca) (ab c) (b (b c)) (b c d) (b c) 10 9 _ a a0 a_ aa ab b z";
        PlayTest.terms("terms in order", Check.started(all), 21, want);
        RuleSheets x = Check.started("(role r)(role q)" + all + "(<= (legal r ?x) (true ?x))(<= (legal q (m ?x)) (true ?x))");
        PlayTest.moves("moves in order", x, 0, 21, want);
        Check.same("the other role's first move", "(m (a (c d e) b))", Check.text(x, 2, 0));
        Check.same("the other role's last move", "(m z)", Check.text(x, 2, 20));
        StringBuilder names = new StringBuilder();
        TreeSet<String> sorted = new TreeSet<>();
        for (int k = 0; k < 60; k++) {
            String name = "" + (char) ('a' + k % 20) + (char) ('a' + k / 20) + (char) ('a' + k % 7);
            names.append("(init ").append(name).append(')');
            sorted.add(name);
        }
        PlayTest.terms("many names", Check.started(names.toString()), 60, String.join(" ", sorted));
    }

    /** "JOINT MOVE .. numbered from 0, in the order of the first role's moves, of those alike in it of the second role's, and so on" */
    private static void joint() {
        String sheet = "(role a)(role b)(role c)(role d)(role e)"
            + "(legal a 1)(legal a 2)(legal b 1)(legal b 2)(legal b 3)(legal c 1)(legal d 2)(legal d 1)(legal e 5)"
            + "(<= (next (did ?r ?m)) (does ?r ?m))(<= terminal (true (did a 1)))";
        for (int j = 0; j < 12; j++) {
            int move = j;
            RuleSheets x = Check.started(sheet);
            Check.due("play(" + j + ")", 4, () -> x.play(move));
            PlayTest.terms("joint move " + j, x, 4, "(did a " + (1 + j / 6) + ") (did b " + (1 + j / 2 % 3) + ") (did c 1) (did d " + (1 + j % 2) + ")");
        }
        for (int j : new int[] {-1, 12, 13, Integer.MAX_VALUE, Integer.MIN_VALUE}) {
            Check.leaves("play(" + j + ") of twelve", IndexOutOfBoundsException.class, () -> Check.started(sheet), y -> y.play(j));
        }
    }

    /** "without roles there are none", nor if a role has no move. */
    private static void noJoint() {
        Check.leaves("play(0) without roles", IndexOutOfBoundsException.class, () -> Check.started("(init a)(legal a b)(next c)"), x -> x.play(0));
        String sheet = "(role a)(role b)(init s)(legal a b)(legal a c)(next c)";
        Check.leaves("play(0) if the second role has no move", IndexOutOfBoundsException.class, () -> Check.started(sheet), x -> x.play(0));
        Check.leaves("play(0) if the first role has no move", IndexOutOfBoundsException.class, () -> Check.started(sheet.replace("legal a", "legal b")), x -> x.play(0));
        Check.due("play(0) if both have", 1, () -> Check.started(sheet + "(legal b m)").play(0));
        Check.due("play(1) if both have", 1, () -> Check.started(sheet + "(legal b m)").play(1));
        Check.refused("play(2) if both have", IndexOutOfBoundsException.class, () -> Check.started(sheet + "(legal b m)").play(2));
    }

    /** "(They may be more than an int tells: then each int from 0 on is one.)": 225 moves each are 2562890625. */
    private static void manyJoint() {
        StringBuilder out = new StringBuilder("(role a)(role b)(role c)(role d)");
        for (int k = 0; k < 15; k++) {
            out.append("(d ").append((char) ('a' + k)).append(")");
        }
        out.append("(<= (legal ?r (m ?x ?y)) (role ?r) (d ?x) (d ?y))(<= (next (did ?r ?m)) (does ?r ?m))");
        for (int j : new int[] {Integer.MAX_VALUE, Integer.MAX_VALUE - 1, 2000000000, 225 * 225 * 225, 1, 0}) {
            RuleSheets x = Check.started(out.toString());
            Check.due("play(" + j + ") of more than an int tells", 4, () -> x.play(j));
            StringBuilder want = new StringBuilder();
            long part = 225L * 225 * 225;
            for (int r = 0; r < 4; r++) {
                int n = (int) (j / part % 225);
                want.append(r == 0 ? "" : " ").append("(did ").append("abcd".charAt(r)).append(" (m ")
                    .append((char) ('a' + n / 15)).append(' ').append((char) ('a' + n % 15)).append("))");
                part /= 225;
            }
            PlayTest.terms("joint move " + j, x, 4, want.toString());
        }
        Check.refused("play(-1)", IndexOutOfBoundsException.class, () -> Check.started(out.toString()).play(-1));
        Check.refused("play(least)", IndexOutOfBoundsException.class, () -> Check.started(out.toString()).play(Integer.MIN_VALUE));
    }

    /** So many joint moves that an int can just tell them: 215 moves each are 2136750625. */
    private static void mostOfAnInt() {
        String sheet = "(role a)(role b)(role c)(role d)" + Check.facts("x", 5)
            + "(<= (y (p ?a ?b)) (x ?a) (x ?b))" + Check.facts("y", 18)
            + "(<= (legal ?r (m ?x ?y)) (role ?r) (x ?x) (y ?y))(<= (next (did ?r ?m)) (does ?r ?m))";
        int all = 215 * 215 * 215 * 215;
        Check.holds("an int tells them", all == 2136750625L);
        RuleSheets x = Check.started(sheet);
        Check.due("moves of each", 215, () -> x.moves(3));
        Check.due("the last joint move", 4, () -> x.play(all - 1));
        PlayTest.terms("its terms", x, 4, "(did a (m 4 9)) (did b (m 4 9)) (did c (m 4 9)) (did d (m 4 9))");
        Check.refused("one more", IndexOutOfBoundsException.class, () -> x.play(all));
    }

    public static void main(String[] args) {
        roles();
        fifthRole();
        initial();
        moves();
        terminal();
        goals();
        goalsAsNumbers();
        next();
        sixtyTerms();
        order();
        beginnings();
        orderOfAll();
        joint();
        noJoint();
        manyJoint();
        mostOfAnInt();
        Check.finish();
    }
}
