/** Promises 13 (explore), 14 (defect), 15 (state), 16 (next), 17 (value) and 18 (best); what is refused of them: RefusedTest. */
public final class ExploreTest {
    private ExploreTest() {
    }

    /** "Finds all states (once for a sheet): how many; the state stays." */
    private static void stateStays() {
        RuleSheets x = Check.started(PlayTest.HEAP);
        x.play(0);
        x.play(1);
        Check.due("explore()", 8, x::explore);
        PlayTest.terms("the state stays", x, 2, "(heap 1) (turn first)");
        PlayTest.moves("its moves stay", x, 0, 1, "(take 1)");
        Check.due("explore() again", 8, x::explore);
        Check.due("play goes on", 2, () -> x.play(0));
        PlayTest.terms("to the end", x, 2, "(heap 0) (turn second)");
        Check.due("the states stay", 8, x::explore);
        Check.due("and their value", 100, () -> x.value(0));
        Check.due("start()", 2, x::start);
        Check.due("they stay behind start()", 1, () -> x.next(0, 0));
        RuleSheets y = Check.reading(PlayTest.HEAP);
        Check.due("explore() without a state", 8, y::explore);
        Check.refused("there is none then", IllegalStateException.class, () -> y.terminal() ? 1 : 0);
    }

    /** "UnsupportedOperationException if it is too great (they are not known then, if they weren't)", the state stays. */
    private static void notKnown() {
        String great = "(role a)(role b)(init s)(legal a m)(legal a n)(legal b m)(<= (next t) (does a m))(<= (next ?x) (p ?x) (does a n))"
            + Check.facts("q", 8) + "(<= (p (f ?x ?y)) (q ?x) (q ?y))";
        RuleSheets x = Check.started(great);
        Check.due("moves", 2, () -> x.moves(0));
        for (int n = 0; n < 2; n++) {
            Check.refused("explore() too great", UnsupportedOperationException.class, x::explore);
            Check.refused("defect(0)", IllegalStateException.class, () -> x.defect(0));
            Check.refused("state(0,0)", IllegalStateException.class, () -> x.state(0, 0));
            Check.refused("next(0,0)", IllegalStateException.class, () -> x.next(0, 0));
            Check.refused("value(0)", IllegalStateException.class, () -> x.value(0));
            Check.refused("best(0)", IllegalStateException.class, () -> x.best(0));
            PlayTest.moves("the state's moves stay", x, 0, 2, "m n");
        }
        Check.refused("play to 64 terms", UnsupportedOperationException.class, () -> x.play(1));
        Check.due("play to one", 1, () -> x.play(0));
        x.end(0);
        Check.write(x, PlayTest.HEAP);
        Check.due("another sheet", 0, x::read);
        Check.due("whose states can be known", 8, x::explore);
        x.end(0);
        Check.write(x, great);
        Check.due("the great one again", 0, x::read);
        Check.refused("explore() of it", UnsupportedOperationException.class, x::explore);
        Check.refused("nothing is known of the other", IllegalStateException.class, () -> x.state(0, 0));
    }

    /** "The first defect (what = 0; 0 if there is none), its state (1; NONE for 0 and 1)." */
    private static void defects() {
        String[] texts = {"(role a)(role b)terminal(goal a 1)(goal b 99)", "(role a)", "(role a)(role b)", "(role a)(role b)(legal a m)(legal a n)(legal b m)(legal b n)",
            "(role a)(role b)terminal", "(role a)(role b)terminal(goal a 1)(goal b 98)", "(role a)(role b)(legal a m)(legal b m)"};
        for (int kind = 0; kind < texts.length; kind++) {
            int its = kind;
            RuleSheets x = AllStatesTest.explored(texts[kind], 1);
            Check.due("defect(0) of " + texts[kind], its, () -> x.defect(0));
            Check.due("defect(1) of " + texts[kind], its < 2 ? -1 : 0, () -> x.defect(1));
            Check.refused("defect(2)", IllegalArgumentException.class, () -> x.defect(2));
            Check.refused("defect(-1)", IllegalArgumentException.class, () -> x.defect(-1));
            Check.due("its states can be asked for", 0, () -> x.state(0, 0));
            for (int n : new int[] {-1, 0, 999}) {
                Check.refused("value(" + n + ")", its > 0 ? IllegalStateException.class : IndexOutOfBoundsException.class, () -> x.value(n == 0 && its == 0 ? 1 : n));
                Check.refused("best(" + n + ")", its > 0 ? IllegalStateException.class : IndexOutOfBoundsException.class, () -> x.best(n == 0 && its == 0 ? 1 : n));
            }
        }
    }

    private static RuleSheets explored(String text) {
        RuleSheets x = Check.reading(text);
        x.explore();
        return x;
    }

    /** "Of state n: 0 how many terms it has": none, and the most that there may be. */
    private static void termsOfStates() {
        Check.due("no terms", 0, () -> explored("(role a)").state(0, 0));
        Check.due("one term", 1, () -> explored("(init a)").state(0, 0));
        Check.due("sixty terms", 60, () -> explored(Check.facts("d", 6) + Check.facts("e", 10) + "(<= (init (c ?x ?y)) (d ?x) (e ?y))").state(0, 0));
        String sixty = Check.facts("d", 6) + Check.facts("e", 10) + "(role a)(legal a m)(init s)(<= (next (c ?x ?y)) (d ?x) (e ?y))";
        Check.due("one term before", 1, () -> explored(sixty).state(0, 0));
        Check.due("sixty terms behind", 60, () -> explored(sixty).state(1, 0));
    }

    /** "1 whether it is terminal (1 or 0)" */
    private static void endsOfStates() {
        Check.due("a terminal one", 1, () -> explored("terminal").state(0, 1));
        Check.due("one that isn't", 0, () -> explored("(init a)").state(0, 1));
        String chain = "(role a)(legal a m)(init s)(<= (next t) (true s))(<= (next u) (true t))(<= terminal (true u))";
        for (int n = 0; n < 3; n++) {
            int s = n;
            Check.due("state " + n + " of three", n == 2 ? 1 : 0, () -> explored(chain).state(s, 1));
        }
    }

    /** "2 how many joint moves (0 if it is terminal, or a role has no move)" */
    private static void movesOfStates() {
        String two = "(role a)(role b)(init s)(legal a m)(legal a n)(legal a o)";
        Check.due("three and none", 0, () -> explored(two).state(0, 2));
        Check.due("none and three", 0, () -> explored(two.replace("legal a", "legal b")).state(0, 2));
        Check.due("three and one", 3, () -> explored(two + "(legal b m)").state(0, 2));
        Check.due("three and two", 6, () -> explored(two + "(legal b m)(legal b n)").state(0, 2));
        Check.due("three and two of a terminal one", 0, () -> explored(two + "(legal b m)(legal b n)terminal").state(0, 2));
        Check.due("none without roles", 0, () -> explored("(init s)(legal a m)").state(0, 2));
        Check.due("one role's", 1, () -> explored("(role a)(legal a m)").state(0, 2));
        Check.due("four roles'", 16, () -> explored(Check.facts("role", 4) + "(<= (legal ?r m) (role ?r))(<= (legal ?r n) (role ?r))").state(0, 2));
    }

    /** "The state that comes by joint move j of state n. .. IndexOutOfBoundsException if there is no such state or joint move, or it is terminal." */
    private static void nextStates() {
        String text = "(role a)(legal a m)(legal a n)(init s)(<= (next t) (true s) (does a m))(<= (next u) (true s) (does a n))(<= (next s) (true t))(<= terminal (true u))";
        int[][] next = {{1, 2}, {0, 0}};
        for (int n = 0; n < 2; n++) {
            for (int j = 0; j < 2; j++) {
                int s = n;
                int m = j;
                Check.due("next(" + n + "," + j + ")", next[n][j], () -> explored(text).next(s, m));
            }
        }
        int[][] none = {{0, 2}, {0, -1}, {1, 2}, {1, -1}, {2, 0}, {2, 1}, {2, -1}, {3, 0}, {-1, 0}, {3, 2}};
        for (int[] no : none) {
            Check.leaves("next(" + no[0] + "," + no[1] + ")", IndexOutOfBoundsException.class, () -> explored(text), x -> x.next(no[0], no[1]));
        }
        Check.leaves("next(0,0) where states aren't known", IllegalStateException.class, () -> Check.started(text), x -> x.next(0, 0));
    }

    /** "The value of state n. IllegalStateException if the states aren't known, or have a defect; IndexOutOfBoundsException if there is no such state." */
    private static void valuesOfStates() {
        String text = AllStatesTest.graph("01 02", "0", "1:40 2:60");
        int[] worth = {60, 40, 60};
        for (int n = 0; n < 3; n++) {
            int s = n;
            Check.due("value(" + n + ")", worth[n], () -> explored(text).value(s));
        }
        for (int n : new int[] {-1, 3}) {
            Check.leaves("value(" + n + ")", IndexOutOfBoundsException.class, () -> explored(text), x -> x.value(n));
        }
        for (int n : new int[] {-1, 0, 3}) {
            Check.leaves("value(" + n + ") where states aren't known", IllegalStateException.class, () -> Check.reading(text), x -> x.value(n));
            Check.leaves("value(" + n + ") where states have a defect", IllegalStateException.class, () -> explored(text + "(goal x 3)"), x -> x.value(n));
        }
    }

    /** "The best joint move of state n; NONE if it is terminal." */
    private static void bestMoves() {
        String text = AllStatesTest.graph("01 02", "0", "1:40 2:60");
        int[] best = {1, -1, -1};
        for (int n = 0; n < 3; n++) {
            int s = n;
            Check.due("best(" + n + ")", best[n], () -> explored(text).best(s));
        }
        for (int n : new int[] {-1, 3}) {
            Check.leaves("best(" + n + ")", IndexOutOfBoundsException.class, () -> explored(text), x -> x.best(n));
        }
        for (int n : new int[] {-1, 0, 3}) {
            Check.leaves("best(" + n + ") where states aren't known", IllegalStateException.class, () -> Check.reading(text), x -> x.best(n));
            Check.leaves("best(" + n + ") where states have a defect", IllegalStateException.class, () -> explored(text + "(goal x 3)"), x -> x.best(n));
        }
    }

    private static void heap() {
        RuleSheets x = Check.reading(PlayTest.HEAP);
        Check.refused("defect(0) ahead of explore()", IllegalStateException.class, () -> x.defect(0));
        Check.refused("state(0,0) ahead of explore()", IllegalStateException.class, () -> x.state(0, 0));
        Check.due("explore()", 8, x::explore);
        Check.due("explore() again", 8, x::explore);
        Check.due("defect(0)", 0, () -> x.defect(0));
        Check.due("defect(1)", -1, () -> x.defect(1));
        Check.refused("there is no state by that", IllegalStateException.class, () -> x.moves(0));
        int[][] next = {{1, 2}, {3, 4}, {4, 5}, {6, 7}, {7}, {}, {5}, {}};
        int[] worth = {100, 100, 0, 100, 100, 0, 0, 100};
        int[] best = {0, 0, 1, 1, 0, -1, 0, -1};
        for (int n = 0; n < 8; n++) {
            int s = n;
            Check.due("state(" + n + ",0)", 2, () -> x.state(s, 0));
            Check.due("state(" + n + ",1)", next[n].length == 0 ? 1 : 0, () -> x.state(s, 1));
            Check.due("state(" + n + ",2)", next[n].length, () -> x.state(s, 2));
            for (int j = 0; j < next[n].length; j++) {
                int m = j;
                Check.due("next(" + n + "," + j + ")", next[n][j], () -> x.next(s, m));
            }
            Check.due("value(" + n + ")", worth[n], () -> x.value(s));
            Check.due("best(" + n + ")", best[n], () -> x.best(s));
        }
        x.start();
        x.play(1);
        Check.due("explore() with a state", 8, x::explore);
        Check.same("the state stays", "(heap 2)", Check.text(x, 0, 0));
    }

    private static void numbers() {
        RuleSheets x = AllStatesTest.explored(AllStatesTest.graph("01 02 13 23 24 14", "0", "3:40 4:60"), 5);
        int[][] next = {{1, 2}, {3, 4}, {3, 4}, {}, {}};
        int[] worth = {40, 40, 40, 40, 60};
        int[] best = {0, 0, 0, -1, -1};
        for (int n = 0; n < 5; n++) {
            int s = n;
            Check.due("state(" + n + ",0)", 1, () -> x.state(s, 0));
            Check.due("state(" + n + ",1)", n > 2 ? 1 : 0, () -> x.state(s, 1));
            Check.due("state(" + n + ",2)", next[n].length, () -> x.state(s, 2));
            for (int j = 0; j < next[n].length; j++) {
                int m = j;
                Check.due("next(" + n + "," + j + ")", next[n][j], () -> x.next(s, m));
            }
            Check.refused("next(" + n + ", one more)", IndexOutOfBoundsException.class, () -> x.next(s, next[s].length));
            Check.refused("next(" + n + ", -1)", IndexOutOfBoundsException.class, () -> x.next(s, -1));
            Check.due("value(" + n + ")", worth[n], () -> x.value(s));
            Check.due("best(" + n + ")", best[n], () -> x.best(s));
        }
        for (int n : new int[] {-1, 5, 300, Integer.MAX_VALUE}) {
            Check.refused("state(" + n + ",9)", IndexOutOfBoundsException.class, () -> x.state(n, 9));
            Check.refused("next(" + n + ",0)", IndexOutOfBoundsException.class, () -> x.next(n, 0));
            Check.refused("value(" + n + ")", IndexOutOfBoundsException.class, () -> x.value(n));
            Check.refused("best(" + n + ")", IndexOutOfBoundsException.class, () -> x.best(n));
        }
        Check.refused("state(0,-1)", IllegalArgumentException.class, () -> x.state(0, -1));
        Check.refused("state(0,3)", IllegalArgumentException.class, () -> x.state(0, 3));
    }

    /** State 0 has two joint moves that lead to one state; a terminal one has none, whatever is legal. */
    private static void counts() {
        RuleSheets x = AllStatesTest.explored("(role a)(role b)(legal a m)(legal a n)(legal b m)(init s)(init t)(<= (next s) (true t))(<= terminal (not (true t)))(goal a 30)(goal b 70)", 2);
        Check.due("state(0,0)", 2, () -> x.state(0, 0));
        Check.due("state(0,1)", 0, () -> x.state(0, 1));
        Check.due("state(0,2)", 2, () -> x.state(0, 2));
        Check.due("state(1,0)", 1, () -> x.state(1, 0));
        Check.due("state(1,1)", 1, () -> x.state(1, 1));
        Check.due("state(1,2)", 0, () -> x.state(1, 2));
        Check.due("next(0,1)", 1, () -> x.next(0, 1));
        Check.refused("next(1,0)", IndexOutOfBoundsException.class, () -> x.next(1, 0));
        Check.due("value(0)", 30, () -> x.value(0));
        Check.due("best(0)", 0, () -> x.best(0));
        RuleSheets y = AllStatesTest.explored("(role a)(role b)(legal a m)(init s)", 1);
        Check.due("a role has no move", 0, () -> y.state(0, 2));
        Check.refused("so there is no next", IndexOutOfBoundsException.class, () -> y.next(0, 0));
        RuleSheets z = AllStatesTest.explored("(legal a m)(init s)(init s2)", 1);
        Check.due("no roles, no joint moves", 0, () -> z.state(0, 2));
        Check.due("two terms", 2, () -> z.state(0, 0));
        RuleSheets w = AllStatesTest.explored("(role a)", 1);
        Check.due("a state may be empty", 0, () -> w.state(0, 0));
    }

    /** What a sheet before has left doesn't show. */
    private static void another() {
        RuleSheets x = AllStatesTest.explored(AllStatesTest.graph("00 01", "0", "1:100"), 2);
        Check.due("a circle", 6, () -> x.defect(0));
        x.end(0);
        Check.write(x, "(role a)(role b)(init s)terminal(goal a 30)(goal b 70)");
        x.read();
        Check.refused("value(0) of a new sheet", IllegalStateException.class, () -> x.value(0));
        Check.due("explore() of a new sheet", 1, x::explore);
        Check.due("its defect", 0, () -> x.defect(0));
        Check.due("its value", 30, () -> x.value(0));
        Check.due("its best", -1, () -> x.best(0));
        Check.refused("its state 1", IndexOutOfBoundsException.class, () -> x.state(1, 0));
        x.end(16);
        Check.due("one more sheet", 0, x::read);
        Check.due("that has a defect", 1, x::explore);
        Check.due("namely that", 2, () -> x.defect(0));
        Check.due("in state 0", 0, () -> x.defect(1));
    }

    public static void main(String[] args) {
        stateStays();
        notKnown();
        defects();
        termsOfStates();
        endsOfStates();
        movesOfStates();
        nextStates();
        valuesOfStates();
        bestMoves();
        heap();
        numbers();
        counts();
        another();
        Check.finish();
    }
}
