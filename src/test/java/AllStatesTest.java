/** Terms 5, ALL STATES: a test for each of its sentences, with the last that is well and the first that isn't. */
public final class AllStatesTest {
    private static final Class<UnsupportedOperationException> GREAT = UnsupportedOperationException.class;

    private AllStatesTest() {
    }

    static RuleSheets explored(String text, int count) {
        RuleSheets x = Check.reading(text);
        Check.due("explore() of " + text, count, x::explore);
        return x;
    }

    private static void tooGreat(String what, String text) {
        Check.leaves("explore() " + what, GREAT, () -> Check.reading(text), RuleSheets::explore);
        Check.leaves("explore() with a state " + what, GREAT, () -> Check.started(text), RuleSheets::explore);
    }

    /** States s0, s1 .. by edges like "01 12"; the first role chooses at those of xs, the second at the rest. */
    static String graph(String edges, String xs, String worths) {
        StringBuilder out = new StringBuilder("(role x)(role o)(init s0)");
        for (String e : edges.split(" ")) {
            out.append("(e s").append(e.charAt(0)).append(" s").append(e.charAt(1)).append(')');
        }
        for (char c : xs.toCharArray()) {
            out.append("(ofx s").append(c).append(')');
        }
        for (String w : worths.split(" ")) {
            out.append("(w s").append(w.charAt(0)).append(' ').append(w.substring(2)).append(')');
        }
        return out + "(<= (legal x ?t) (true ?s) (ofx ?s) (e ?s ?t))(<= (legal o ?t) (true ?s) (not (ofx ?s)) (e ?s ?t))"
            + "(<= (legal o no) (true ?s) (ofx ?s))(<= (legal x no) (true ?s) (not (ofx ?s)))"
            + "(<= (next ?t) (does ?r ?t) (distinct ?t no))(<= more (true ?s) (e ?s ?t))(<= terminal (not more))"
            + "(p 0 100)(p 100 0)(p 50 50)(p 40 60)(p 60 40)(p 70 30)"
            + "(<= (goal x ?v) (true ?s) (w ?s ?v))(<= (goal o ?v) (true ?s) (w ?s ?u) (p ?u ?v))";
    }

    private static void nexts(String text, int[][] next) {
        RuleSheets x = explored(text, next.length);
        for (int n = 0; n < next.length; n++) {
            int s = n;
            Check.due("joint moves of state " + n, next[n].length, () -> x.state(s, 2));
            for (int j = 0; j < next[n].length; j++) {
                int m = j;
                Check.due("next(" + n + "," + j + ")", next[n][j], () -> x.next(s, m));
            }
        }
    }

    /** "From the initial state (0) on: states are taken in the order of their numbers; .. each that isn't known gets the next number." */
    private static void numbers() {
        nexts("(role a)", new int[][] {{}});
        nexts("(role a)(legal a m)", new int[][] {{0}});
        nexts("(role a)(legal a m)(init s)", new int[][] {{1}, {1}});
        nexts(graph("01 02 13 23 24 14", "0", "3:40 4:60"), new int[][] {{1, 2}, {3, 4}, {3, 4}, {}, {}});
        nexts(graph("09 08 97 86 81", "0", "1:0"), new int[][] {{1, 2}, {3, 4}, {5}, {}, {}, {}});
        nexts(graph("02 01 12 20 00", "0", "1:0"), new int[][] {{0, 1, 2}, {2}, {0}});
        // A state is what its terms are, however it has come.
        nexts("(role a)(legal a m)(legal a n)(init s)(<= (next u) (does a m))(<= (next v) (does a m))(<= (next v) (does a n))(<= (next u) (does a n))",
            new int[][] {{1, 1}, {1, 1}});
    }

    /** A state is known only if all its terms are alike: forty of two names each, near to one another, are forty. */
    private static void unlike() {
        StringBuilder out = new StringBuilder();
        for (int k = 0; k < 68; k++) {
            out.append(k % 4 == 0 ? "(d " : " ").append('n').append(k / 10).append(k % 10).append(k % 4 == 3 ? ")" : "");
        }
        for (int k = 0; k < 20; k++) {
            out.append("(e");
            for (int n : new int[] {k, k + 45, k + 1, k + 14}) {
                out.append(" n").append(n / 10).append(n % 10);
            }
            out.append(')');
        }
        out.append("(role a)(init s)(<= (legal a (m ?x ?y)) (e ?x ?y ?z ?w))(<= (legal a (m ?x ?y)) (e ?z ?w ?x ?y))");
        out.append("(<= (next ?x) (does a (m ?x ?y)))(<= (next ?y) (does a (m ?x ?y)))(<= terminal (not (true s)))");
        RuleSheets x = explored(out.toString(), 41);
        for (int n = 1; n < 41; n++) {
            int s = n;
            Check.due("next(0," + (n - 1) + ")", n, () -> x.next(0, s - 1));
            Check.due("terms of state " + n, 2, () -> x.state(s, 0));
        }
        nexts("(role a)(legal a m)(legal a n)(legal a o)(init s)(<= (next (f ?m)) (does a ?m))(<= (next f) (does a o))(<= (next (f o)) (does a m))"
            + "(<= terminal (not (true s)))", new int[][] {{1, 2, 3}, {}, {}, {}});
    }

    /** "of one that isn't terminal the next states by all its joint moves": of one that is there are none. */
    private static void noneOfTerminal() {
        nexts("(role a)(legal a m)(init s)(<= (next t) (true s))(<= (next u) (true t))(<= terminal (true t))", new int[][] {{1}, {}});
        nexts("(role a)(legal a m)(init s)(next t)terminal", new int[][] {{}});
        nexts("(role a)(role b)(legal a m)(legal b m)(legal b n)(init s)(<= (next ?m) (does b ?m))(<= terminal (true n))", new int[][] {{1, 2}, {1, 2}, {}});
        nexts("(init s)(next t)(legal a m)", new int[][] {{}});
    }

    /** A counter through ten times so many states; more at its end if asked for. */
    private static String counter(int most, String more) {
        StringBuilder out = new StringBuilder("(role a)(role b)(legal a go)(legal b go)(init (c 0 0))");
        for (int k = 0; k < most - 1; k++) {
            out.append("(s ").append(k).append(' ').append(k + 1).append(')').append(k < 9 ? "(t " + k + " " + (k + 1) + ")" : "");
        }
        return out + "(<= (next (c ?x ?z)) (true (c ?x ?y)) (s ?y ?z))(<= (next (c ?z 0)) (true (c ?x " + (most - 1) + ")) (t ?x ?z))" + more;
    }

    /** "More than 300 states .. is too great." */
    private static void threeHundred() {
        String goals = "(goal a 25)(goal b 75)";
        RuleSheets x = explored(counter(30, "(<= terminal (true (c 9 29)))" + goals), 300);
        Check.due("its defect", 0, () -> x.defect(0));
        Check.due("the value from far", 25, () -> x.value(0));
        Check.due("the value of the last", 25, () -> x.value(299));
        Check.due("the last next", 299, () -> x.next(298, 0));
        Check.due("the last is terminal", 1, () -> x.state(299, 1));
        Check.refused("there is no further one", IndexOutOfBoundsException.class, () -> x.state(300, 0));
        tooGreat("of 301 states", counter(30, "(<= (next end) (true (c 9 29)))(<= terminal (true end))" + goals));
        explored(counter(30, "(<= terminal (true (c 9 28)))" + goals), 299);
        explored(counter(30, "(<= (next end) (true (c 9 29)))(<= terminal (true (c 9 29)))" + goals), 300);
        RuleSheets z = explored(counter(30, "(<= (next (c 0 7)) (true (c 9 29)))"), 300);
        Check.due("the defect of a circle", 6, () -> z.defect(0));
        Check.due("the least state of the circle", 7, () -> z.defect(1));
        RuleSheets y = Check.reading(counter(30, "(<= (next end) (true (c 9 29)))"));
        Check.refused("explore() of 301", GREAT, y::explore);
        Check.refused("they are not known", IllegalStateException.class, () -> y.state(0, 0));
        Check.due("start() is well", 1, y::start);
    }

    private static String forty(String more) {
        return "(role a)(role b)" + Check.facts("d", 5) + Check.facts("e", 8) + "(<= (legal a (m ?x ?y)) (d ?x) (e ?y))(init s)" + more;
    }

    /** "more than 40 joint moves of one that isn't terminal" */
    private static void fortyMoves() {
        RuleSheets x = explored(forty("(legal b no)"), 2);
        Check.due("how many there are", 40, () -> x.state(0, 2));
        Check.due("the last of them", 1, () -> x.next(0, 39));
        Check.refused("no more", IndexOutOfBoundsException.class, () -> x.next(0, 40));
        tooGreat("with 41 joint moves", forty("(legal b no)(legal a m)"));
        tooGreat("with 80 joint moves", forty("(legal b no)(legal b m)"));
        tooGreat("with 41 joint moves of the second role", forty("(legal b no)(legal a m)").replace("legal a", "legal c").replace("legal b", "legal a").replace("legal c", "legal b"));
        tooGreat("with 41 joint moves later on", forty("(legal b no)(<= (legal a m) (not (true s)))"));
        RuleSheets y = explored(forty("(legal b no)(legal a m)terminal"), 1);
        Check.due("41 of a terminal state", 0, () -> y.state(0, 2));
        explored(forty("(legal b no)(<= (legal a m) (not (true s)))(<= terminal (not (true s)))"), 2);
        RuleSheets z = explored(forty("(legal a m)"), 1);
        Check.due("41 of one role, none of the other", 0, () -> z.state(0, 2));
        String four = "(role a)(role b)(role c)(role d)(<= (legal ?r m) (role ?r))(legal a n)(legal b n)(legal c n)";
        Check.due("forty of four roles", 40, () -> explored(four + "(legal d n)(legal d o)(legal d p)(legal d q)", 1).state(0, 2));
        tooGreat("with 48 joint moves of four roles", four + "(legal d n)(legal d o)(legal d p)(legal d q)(legal d r)");
        StringBuilder many = new StringBuilder("(role a)(role b)(role c)(role d)" + Check.facts("x", 15));
        tooGreat("with more joint moves than an int tells", many + "(<= (legal ?r (m ?x ?y)) (role ?r) (x ?x) (x ?y))");
        explored(many + "(<= (legal ?r (m ?x ?y)) (role ?r) (x ?x) (x ?y))terminal", 1);
    }

    /**
     * A chain of 20 states, so 40 times all is worked out: 39 times with a state, 19 times with a move.
     * The rooms of rules without state and move make up 749990 each time; terminal's is 1 for each
     * state, and next's 19 for each move: 40 * 749990 + 39 + 19 * 19 = 30000000.
     */
    private static String work(String more) {
        StringBuilder out = new StringBuilder("(role a)(init (c 0))(legal a go)");
        for (int k = 0; k < 19; k++) {
            out.append("(s ").append(k).append(' ').append(k + 1).append(')');
        }
        out.append("(<= (next (c ?y)) (true (c ?x)) (s ?x ?y) (does a go))(<= terminal (true (c 19)))");
        out.append(Check.facts("d", 10)).append(Check.facts("e", 3)).append("(<= (x ?a ?b) (d ?a) (d ?b))");
        String[] rooms = {"xxde", "xxde", "xxd", "xxe", "xx", "xdee", "xe", "xe", "x", "x", "de", "ee", "ee", "e", "e", ""};
        for (String room : rooms) {
            out.append("(<= z");
            for (char c : room.toCharArray()) {
                out.append(c == 'x' ? "(x n ?x)" : "(" + c + " n)");
            }
            out.append(')');
        }
        return out + more;
    }

    /** "or work of more than 30000000 in all" */
    private static void work() {
        explored(work(""), 20);
        tooGreat("with work of 30000001", work("").replaceFirst("\\(<= z\\(e n\\)\\(e n\\)\\)", "(<= z(does a n)(s ?x ?y))"));
        explored(work("").replace("(<= z)", "(<= z (true n))"), 20);
        RuleSheets x = Check.started(work(""));
        Check.due("its moves", 1, () -> x.moves(0));
        Check.due("explore() of it with a state", 20, x::explore);
        Check.due("read() of it once more", 0, x::read);
        Check.due("its work is counted anew", 20, x::explore);
    }

    /** "(of the initial state, of no state and no moves; of each state without moves, the initial one, too; and .. by each joint move)" */
    private static void partsOfWork() {
        tooGreat("with one more each time: 30000040", work("z"));
        tooGreat("with one more for each state: 30000039", work("(<= z (true n))"));
        tooGreat("with one more for each joint move: 30000019", work("(<= z (does n ?x))"));
        explored(work("(<= z (none n))"), 20);
        explored(work("(<= z (true n) (none n))"), 20);
        explored(work("(<= z (true n))").replace("(<= z)", ""), 20);
        explored(work("(<= z (does n ?x))(<= z (does n ?x))").replace("(<= z)", ""), 20);
        tooGreat("with 3 more for each joint move, 40 less in all: 30000017", work("(<= z (does n ?x) (e n))").replace("(<= z)", ""));
    }

    /** "(1 without such conditions)": the room of a rule that has no positive conditions counts. */
    private static void roomsWithout() {
        for (String rule : new String[] {"z", "(<= z)", "(<= z (not y))", "(<= z (not z2))", "(<= z (distinct a b))", "(<= z (distinct a a))", "(w v)"}) {
            tooGreat("with work of 30000040 by " + rule, work(rule));
            explored(work(rule).replace("(<= z)", "(<= z (none n))") + (rule.equals("(<= z)") ? "z" : ""), 20);
        }
    }

    private static void defect(String text, int count, int kind, int where) {
        RuleSheets x = explored(text, count);
        Check.due("defect(0) of " + text, kind, () -> x.defect(0));
        Check.due("defect(1) of " + text, where, () -> x.defect(1));
        if (kind == 0) {
            Check.holds("a value of " + text, x.value(0) >= 0);
        } else {
            Check.refused("value(0) with a defect", IllegalStateException.class, () -> x.value(0));
            Check.refused("best(0) with a defect", IllegalStateException.class, () -> x.best(0));
        }
    }

    /** "DEFECTS, the first of these: 1 there are not two roles" */
    private static void twoRoles() {
        String rest = "(init s)terminal(goal r0 40)(goal r1 60)(goal r2 0)(goal r3 0)(goal r4 0)";
        for (int roles = 0; roles <= 5; roles++) {
            StringBuilder text = new StringBuilder(rest);
            for (int r = 0; r < roles; r++) {
                text.append("(role r").append(r).append(')');
            }
            defect(text.toString(), 1, roles == 2 ? 0 : 1, -1);
        }
        defect(rest + "(role r0)(role r1)(role r0)(role r1)", 1, 0, -1);
        defect(rest + "(role r0)(role r0)", 1, 1, -1);
        // It goes ahead of all others.
        defect("(role a)(init s)", 1, 1, -1);
        defect("(role a)(role b)(role c)(legal a m)(legal b m)(legal c m)", 1, 1, -1);
        defect("(role a)terminal", 1, 1, -1);
    }

    /** "2 a role of one that isn't terminal has no move" */
    private static void noMove() {
        defect("(role a)(role b)(init s)(legal a m)(goal a 0)(goal b 100)", 1, 2, 0);
        defect("(role a)(role b)(init s)(legal b m)(legal b n)(goal a 0)(goal b 100)", 1, 2, 0);
        defect("(role a)(role b)(init s)", 1, 2, 0);
        defect("(role a)(role b)(init s)(legal a m)(<= (legal b m) (true s))", 2, 2, 1);
        defect("(role a)(role b)(init s)(legal a m)(goal a 0)(goal b 100)terminal", 1, 0, -1);
        defect("(role a)(role b)(init s)(goal a 0)(goal b 100)terminal", 1, 0, -1);
    }

    /** "3 both roles of such a one have more than one" */
    private static void bothChoose() {
        String end = "(role a)(role b)(init s)(legal a m)(legal b m)(goal a 0)(goal b 100)(<= terminal (not (true s)))";
        defect(end, 2, 0, -1);
        defect(end + "(legal a n)", 2, 0, -1);
        defect(end + "(legal b n)", 2, 0, -1);
        defect(end + "(legal a n)(legal b n)", 2, 3, 0);
        defect(end + "(<= (legal a n) (not (true s)))(<= (legal b n) (not (true s)))", 2, 0, -1);
        defect("(role a)(role b)terminal(legal a m)(legal b m)(legal a n)(legal b n)(goal a 0)(goal b 100)", 1, 0, -1);
        defect("(role a)(role b)(init s)(legal a m)(legal b m)(<= (legal a n) (not (true s)))(<= (legal b n) (not (true s)))", 2, 3, 1);
    }

    /** "4 a role of a terminal one has no goal, or several" */
    private static void goals() {
        String over = "(role a)(role b)(init s)terminal";
        defect(over + "(goal a 100)", 1, 4, 0);
        defect(over + "(goal b 100)", 1, 4, 0);
        defect(over, 1, 4, 0);
        defect(over + "(goal a 100)(goal b 0)(goal b 1)", 1, 4, 0);
        defect(over + "(goal a 100)(goal a 99)(goal b 0)", 1, 4, 0);
        defect(over + "(goal a 100)(goal b 0)", 1, 0, -1);
        defect(over + "(goal a 100)(goal b 00)(goal b 0)", 1, 0, -1);
        defect(over + "(goal a 101)(goal b 0)", 1, 4, 0);
        defect(over + "(goal a 0100)(goal b 0)", 1, 4, 0);
        defect(over + "(goal a x)(goal a 100)(goal b 0)", 1, 0, -1);
        defect("(role a)(role b)(init s)(legal a m)(legal b m)(<= terminal (not (true s)))(goal a 0)(<= (goal b 100) (not (true s)))(<= (goal a 1) (true s))", 2, 0, -1);
    }

    /** "5 its two goals don't make up 100" */
    private static void sums() {
        for (int a : new int[] {0, 1, 40, 50, 99, 100}) {
            for (int more = -1; more <= 1; more++) {
                int b = 100 - a + more;
                if (b >= 0 && b <= 100) {
                    defect("(role a)(role b)(init s)terminal(goal a " + a + ")(goal b " + b + ")", 1, more == 0 ? 0 : 5, more == 0 ? -1 : 0);
                }
            }
        }
        defect("(role a)(role b)(init s)terminal(goal a 100)(goal b 100)", 1, 5, 0);
        defect("(role a)(role b)(init s)terminal(goal a 0)(goal b 0)", 1, 5, 0);
        defect("(role a)(role b)(init s)(legal a m)(legal b m)(<= terminal (not (true s)))(goal a 40)(<= (goal b 60) (not (true s)))(<= (goal b 61) (true s))", 2, 0, -1);
    }

    /** "then, for each state in the order of their numbers, the first of": the state counts ahead of the kind. */
    private static void firstState() {
        defect(graph("01 02", "0", "1:40 2:60") + "(<= (goal o 3) (true s1))", 3, 4, 1);
        defect(graph("01 02", "0", "1:40 2:60") + "(<= (goal o 3) (true s2))", 3, 4, 2);
        defect(graph("01 02 13 24", "0", "3:100 4:7"), 5, 4, 4);
        // 5 of state 1 ahead of 4 of state 2, and of 2 and 3 of later ones.
        defect(graph("01 02 03", "0", "1:40 2:60 3:7") + "(p 40 61)", 4, 4, 1);
        String chain = "(role a)(role b)(init s0)(e s0 s1)(<= (legal a ?t) (true ?s) (e ?s ?t))(legal b m)(<= (next ?t) (does a ?t))";
        defect(chain + "(e s0 s2)(e s0 s3)(<= terminal (true s1))(goal a 40)(goal b 61)", 4, 5, 1);
        defect(chain + "(e s0 s2)(e s0 s3)(<= terminal (true s3))(goal a 40)(goal b 61)", 4, 2, 1);
        defect(chain + "(e s1 s2)(e s1 s3)(<= (legal b n) (true s1))(<= terminal (true s3))(goal a 40)", 4, 3, 1);
        defect(chain + "(e s1 s2)(e s1 s3)(<= (legal b n) (true s3))(<= terminal (true s2))(goal a 40)", 4, 4, 2);
    }

    /** "then, if no state has one of these, 6 the least state from which one can come to it again" */
    private static void circles() {
        String tail = "(init s)(legal a m)(legal b m)(goal a 40)(goal b 60)";
        defect("(role a)(role b)" + tail, 2, 6, 1);
        defect("(role a)(role b)" + tail + "(<= (next s) (true s))", 1, 6, 0);
        defect("(role a)(role b)" + tail + "(<= (next s) (true s))terminal", 1, 0, -1);
        defect(graph("01 12 23 31 34", "3", "4:100"), 5, 6, 1);
        defect(graph("01 12 21 03 33", "0", "4:100"), 4, 6, 1);
        defect(graph("01 02 13 23 34", "0", "4:100"), 5, 0, -1);
        defect(graph("01 02 13 24 42", "0", "3:100"), 5, 6, 2);
        defect(graph("01 12 20", "0", "3:100"), 3, 6, 0);
        defect(graph("01 12 23 33", "0", "3:100"), 4, 6, 3);
        for (int least : new int[] {0, 1, 62, 63, 64, 65, 126, 127, 128, 129, 191, 192, 255, 256, 257, 298, 299}) {
            defect(counter(30, "(<= (next (c " + least / 30 + " " + least % 30 + ")) (true (c 9 29)))"), 300, 6, least);
        }
        // Other defects go ahead, also those of later states.
        defect(graph("00 01", "0", "1:7"), 2, 4, 1);
        defect(graph("01 10 12", "0", "2:7"), 3, 4, 2);
        defect(graph("00 01", "0", "1:50"), 2, 6, 0);
    }

    private static void values(String text, int[] worth, int[] best) {
        RuleSheets x = explored(text, worth.length);
        for (int n = 0; n < worth.length; n++) {
            int s = n;
            Check.due("value(" + n + ") of " + text, worth[n], () -> x.value(s));
            Check.due("best(" + n + ") of " + text, best[n], () -> x.best(s));
        }
    }

    /** "VALUE: of a terminal one the first role's goal" */
    private static void valuesOfTerminal() {
        for (int goal : new int[] {0, 1, 50, 99, 100}) {
            values("(role a)(role b)(init s)terminal(goal a " + goal + ")(goal b " + (100 - goal) + ")", new int[] {goal}, new int[] {-1});
        }
        values("(role a)(role b)(init s)terminal(goal b 30)(goal a 070)", new int[] {70}, new int[] {-1});
    }

    /** "of others the greatest of the next ones' if the first role has more than one move" */
    private static void greatest() {
        values(graph("01 02 03", "0", "1:0 2:100 3:50"), new int[] {100, 0, 100, 50}, new int[] {1, -1, -1, -1});
        values(graph("01 02 03", "0", "1:40 2:50 3:60"), new int[] {60, 40, 50, 60}, new int[] {2, -1, -1, -1});
        values(graph("01 02", "0", "1:0 2:0"), new int[] {0, 0, 0}, new int[] {0, -1, -1});
        values(graph("01 02", "0", "1:100 2:0"), new int[] {100, 100, 0}, new int[] {0, -1, -1});
    }

    /** "the least if the second one has" */
    private static void least() {
        values(graph("01 02 03", "1", "1:50 2:0 3:100"), new int[] {0, 50, 0, 100}, new int[] {1, -1, -1, -1});
        values(graph("01 02 03", "1", "1:60 2:50 3:40"), new int[] {40, 60, 50, 40}, new int[] {2, -1, -1, -1});
        values(graph("01 02", "1", "1:100 2:100"), new int[] {100, 100, 100}, new int[] {0, -1, -1});
        values(graph("01 12 13 04 45 46", "04", "2:100 3:60 5:40 6:50"), new int[] {60, 60, 50, 100, 60, 40, 50}, new int[] {0, 1, 1, -1, -1, -1, -1});
    }

    /** "and that of the one next one otherwise" */
    private static void onlyOne() {
        values(graph("01", "0", "1:70"), new int[] {70, 70}, new int[] {0, -1});
        values(graph("01", "1", "1:0"), new int[] {0, 0}, new int[] {0, -1});
        values(graph("01 12 23", "02", "3:100"), new int[] {100, 100, 100, 100}, new int[] {0, 0, 0, -1});
        // An early number with a late value: the long way goes to state 1 at last.
        values(graph("01 02 23 34 41 15 16", "0235", "5:40 6:70"), new int[] {40, 40, 40, 40, 70, 40, 40}, new int[] {0, 0, 0, -1, -1, 0, 0});
    }

    /** "The BEST joint move is the first one to a next state of that value." */
    private static void firstBest() {
        values(graph("01 02 03", "0", "1:0 2:100 3:100"), new int[] {100, 0, 100, 100}, new int[] {1, -1, -1, -1});
        values(graph("01 02 03", "1", "1:50 2:40 3:40"), new int[] {40, 50, 40, 40}, new int[] {1, -1, -1, -1});
        values(graph("01 02 03", "0", "1:50 2:50 3:50"), new int[] {50, 50, 50, 50}, new int[] {0, -1, -1, -1});
        values("(role a)(role b)(init s)(legal a m)(legal a n)(legal b m)(<= (next u) (true s))(<= terminal (true u))(goal a 30)(goal b 70)", new int[] {30, 30}, new int[] {0, -1});
    }

    public static void main(String[] args) {
        numbers();
        unlike();
        noneOfTerminal();
        threeHundred();
        fortyMoves();
        work();
        partsOfWork();
        roomsWithout();
        twoRoles();
        noMove();
        bothChoose();
        goals();
        sums();
        firstState();
        circles();
        valuesOfTerminal();
        greatest();
        least();
        onlyOne();
        firstBest();
        Check.finish();
    }
}
