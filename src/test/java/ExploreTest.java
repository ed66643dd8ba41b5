/** Promises 13 (explore), 14 (defect), 15 (state), 16 (next), 17 (value) and 18 (best). */
public final class ExploreTest {
    private ExploreTest() {
    }

    private static RuleSheets explored(String text, int count) {
        RuleSheets x = Check.reading(text);
        Check.due("explore() of " + text, count, x::explore);
        return x;
    }

    private static void defect(String text, int count, int kind, int where) {
        RuleSheets x = explored(text, count);
        Check.due("defect(0) of " + text, kind, () -> x.defect(0));
        Check.due("defect(1) of " + text, where, () -> x.defect(1));
        Check.refused("defect(2)", IllegalArgumentException.class, () -> x.defect(2));
        Check.refused("defect(-1)", IllegalArgumentException.class, () -> x.defect(-1));
        if (kind != 0) {
            Check.refused("value(0) with a defect", IllegalStateException.class, () -> x.value(0));
            Check.refused("value(-1) with a defect", IllegalStateException.class, () -> x.value(-1));
            Check.refused("best(0) with a defect", IllegalStateException.class, () -> x.best(0));
            Check.refused("best(999) with a defect", IllegalStateException.class, () -> x.best(999));
        }
    }

    /** States s0, s1 .. by edges like "01 12"; the first role chooses at those of xs, others at the rest. */
    private static String graph(String edges, String xs, String worths) {
        StringBuilder out = new StringBuilder("(role x)(role o)(init s0)");
        for (String e : edges.split(" ")) {
            out.append("(e s").append(e.charAt(0)).append(" s").append(e.charAt(1)).append(')');
        }
        for (char c : xs.toCharArray()) {
            out.append("(ofx s").append(c).append(')');
        }
        for (String w : worths.split(" ")) {
            out.append("(w s").append(w.charAt(0)).append(' ').append(w.substring(2)).append(')');
        }
        return out + "(<= (legal x ?t) (true ?s) (ofx ?s) (e ?s ?t))(<= (legal o ?t) (true ?s) (not (ofx ?s)) (e ?s ?t))"
            + "(<= (legal o no) (true ?s) (ofx ?s))(<= (legal x no) (true ?s) (not (ofx ?s)))"
            + "(<= (next ?t) (does ?r ?t) (distinct ?t no))(<= more (true ?s) (e ?s ?t))(<= terminal (not more))"
            + "(p 0 100)(p 100 0)(p 50 50)(p 40 60)(p 60 40)(p 70 30)"
            + "(<= (goal x ?v) (true ?s) (w ?s ?v))(<= (goal o ?v) (true ?s) (w ?s ?u) (p ?u ?v))";
    }

    private static void heap() {
        RuleSheets x = Check.reading(PlayTest.HEAP);
        Check.refused("defect(0) ahead of explore()", IllegalStateException.class, () -> x.defect(0));
        Check.refused("state(0,0) ahead of explore()", IllegalStateException.class, () -> x.state(0, 0));
        Check.due("explore()", 8, x::explore);
        Check.due("explore() again", 8, x::explore);
        Check.due("defect(0)", 0, () -> x.defect(0));
        Check.due("defect(1)", -1, () -> x.defect(1));
        Check.refused("there is no state by that", IllegalStateException.class, () -> x.moves(0));
        int[][] next = {{1, 2}, {3, 4}, {4, 5}, {6, 7}, {7}, {}, {5}, {}};
        int[] worth = {100, 100, 0, 100, 100, 0, 0, 100};
        int[] best = {0, 0, 1, 1, 0, -1, 0, -1};
        for (int n = 0; n < 8; n++) {
            int s = n;
            Check.due("state(" + n + ",0)", 2, () -> x.state(s, 0));
            Check.due("state(" + n + ",1)", next[n].length == 0 ? 1 : 0, () -> x.state(s, 1));
            Check.due("state(" + n + ",2)", next[n].length, () -> x.state(s, 2));
            for (int j = 0; j < next[n].length; j++) {
                int m = j;
                Check.due("next(" + n + "," + j + ")", next[n][j], () -> x.next(s, m));
            }
            Check.due("value(" + n + ")", worth[n], () -> x.value(s));
            Check.due("best(" + n + ")", best[n], () -> x.best(s));
        }
        x.start();
        x.play(1);
        Check.due("explore() with a state", 8, x::explore);
        Check.same("the state stays", "(heap 2)", Check.text(x, 0, 0));
    }

    private static void numbers() {
        RuleSheets x = explored(graph("01 02 13 23 24 14", "0", "3:40 4:60"), 5);
        int[][] next = {{1, 2}, {3, 4}, {3, 4}, {}, {}};
        int[] worth = {40, 40, 40, 40, 60};
        int[] best = {0, 0, 0, -1, -1};
        for (int n = 0; n < 5; n++) {
            int s = n;
            Check.due("state(" + n + ",0)", 1, () -> x.state(s, 0));
            Check.due("state(" + n + ",1)", n > 2 ? 1 : 0, () -> x.state(s, 1));
            Check.due("state(" + n + ",2)", next[n].length, () -> x.state(s, 2));
            for (int j = 0; j < next[n].length; j++) {
                int m = j;
                Check.due("next(" + n + "," + j + ")", next[n][j], () -> x.next(s, m));
            }
            Check.refused("next(" + n + ", one more)", IndexOutOfBoundsException.class, () -> x.next(s, next[s].length));
            Check.refused("next(" + n + ", -1)", IndexOutOfBoundsException.class, () -> x.next(s, -1));
            Check.due("value(" + n + ")", worth[n], () -> x.value(s));
            Check.due("best(" + n + ")", best[n], () -> x.best(s));
        }
        for (int n : new int[] {-1, 5, 300, Integer.MAX_VALUE}) {
            Check.refused("state(" + n + ",9)", IndexOutOfBoundsException.class, () -> x.state(n, 9));
            Check.refused("next(" + n + ",0)", IndexOutOfBoundsException.class, () -> x.next(n, 0));
            Check.refused("value(" + n + ")", IndexOutOfBoundsException.class, () -> x.value(n));
            Check.refused("best(" + n + ")", IndexOutOfBoundsException.class, () -> x.best(n));
        }
        Check.refused("state(0,-1)", IllegalArgumentException.class, () -> x.state(0, -1));
        Check.refused("state(0,3)", IllegalArgumentException.class, () -> x.state(0, 3));
    }

    private static void values(String text, int[] worth, int[] best) {
        RuleSheets x = explored(text, worth.length);
        for (int n = 0; n < worth.length; n++) {
            int s = n;
            Check.due("value(" + n + ") of " + text, worth[n], () -> x.value(s));
            Check.due("best(" + n + ") of " + text, best[n], () -> x.best(s));
        }
    }

    private static void worths() {
        values(graph("01 02 03", "0", "1:0 2:100 3:100"), new int[] {100, 0, 100, 100}, new int[] {1, -1, -1, -1});
        values(graph("01 02 03", "1", "1:50 2:40 3:40"), new int[] {40, 50, 40, 40}, new int[] {1, -1, -1, -1});
        values(graph("01", "0", "1:70"), new int[] {70, 70}, new int[] {0, -1});
        values(graph("01 12 13 04 45 46", "04", "2:100 3:60 5:40 6:50"), new int[] {60, 60, 50, 100, 60, 40, 50}, new int[] {0, 1, 1, -1, -1, -1, -1});
        // An early number with a late value: the long way goes to state 1 at last.
        values(graph("01 02 23 34 41 15 16", "0235", "5:40 6:70"), new int[] {40, 40, 40, 40, 70, 40, 40}, new int[] {0, 0, 0, -1, -1, 0, 0});
    }

    private static void defects() {
        String tail = "(init s)(legal a m)(legal b m)(goal a 40)(goal b 60)";
        defect("(role a)(init s)terminal(goal a 100)", 1, 1, -1);
        defect("(init s)(legal a m)", 1, 1, -1);
        defect("(role a)(role b)(role c)" + tail + "terminal", 1, 1, -1);
        defect("(role a)(role b)(role a)(role b)" + tail + "terminal", 1, 0, -1);
        defect("(role a)(role b)(init s)(legal a m)(goal a 0)(goal b 100)", 1, 2, 0);
        defect("(role a)(role b)(init s)(legal a m)(legal b m)(<= terminal (not (true s)))(goal a 0)", 2, 4, 1);
        defect("(role a)(role b)" + tail + "(legal a n)(legal b n)(<= terminal (not (true s)))", 2, 3, 0);
        defect("(role a)(role b)(init s)terminal(goal a 100)", 1, 4, 0);
        defect("(role a)(role b)(init s)terminal(goal a 100)(goal b 0)(goal b 1)", 1, 4, 0);
        defect("(role a)(role b)(init s)terminal(goal a 100)(goal b 00)(goal b 0)", 1, 0, -1);
        defect("(role a)(role b)(init s)terminal(goal a 100)(goal b 1)", 1, 5, 0);
        defect("(role a)(role b)(init s)terminal(goal a 101)(goal b 1)", 1, 4, 0);
        defect("(role a)(role b)" + tail, 2, 6, 1);
        defect("(role a)(role b)" + tail + "(<= (next s) (true s))", 1, 6, 0);
        defect(graph("01 12 23 31 34", "3", "4:100"), 5, 6, 1);
        defect(graph("01 12 21 03 33", "0", "4:100"), 4, 6, 1);
        defect(graph("01 02 13 24", "0", "3:100 4:7"), 5, 4, 4);
        defect(graph("01 10 12", "0", "2:7"), 3, 4, 2);
        defect(graph("01 02 13 24", "0", "3:100 4:50"), 5, 0, -1);
        defect(graph("01 02", "0", "1:40 2:60") + "(<= (goal o 3) (true s1))", 3, 4, 1);
        // Of one state 2 goes ahead of 3, and a state ahead of a later one whatever they have.
        defect("(role a)(role b)(init s)(legal a m)(legal a n)(<= (legal b m) (not (true s)))", 1, 2, 0);
        defect(graph("01 02 13", "0", "2:7") + "(<= (legal x q) (true s1))(<= (legal o q) (true s1))", 6, 3, 1);
    }

    /** State 0 has two joint moves that lead to one state; a terminal one has none, whatever is legal. */
    private static void counts() {
        RuleSheets x = explored("(role a)(role b)(legal a m)(legal a n)(legal b m)(init s)(init t)(<= (next s) (true t))(<= terminal (not (true t)))(goal a 30)(goal b 70)", 2);
        Check.due("state(0,0)", 2, () -> x.state(0, 0));
        Check.due("state(0,1)", 0, () -> x.state(0, 1));
        Check.due("state(0,2)", 2, () -> x.state(0, 2));
        Check.due("state(1,0)", 1, () -> x.state(1, 0));
        Check.due("state(1,1)", 1, () -> x.state(1, 1));
        Check.due("state(1,2)", 0, () -> x.state(1, 2));
        Check.due("next(0,1)", 1, () -> x.next(0, 1));
        Check.refused("next(1,0)", IndexOutOfBoundsException.class, () -> x.next(1, 0));
        Check.due("value(0)", 30, () -> x.value(0));
        Check.due("best(0)", 0, () -> x.best(0));
        RuleSheets y = explored("(role a)(role b)(legal a m)(init s)", 1);
        Check.due("a role has no move", 0, () -> y.state(0, 2));
        Check.refused("so there is no next", IndexOutOfBoundsException.class, () -> y.next(0, 0));
        RuleSheets z = explored("(legal a m)(init s)(init s2)", 1);
        Check.due("no roles, no joint moves", 0, () -> z.state(0, 2));
        Check.due("two terms", 2, () -> z.state(0, 0));
        RuleSheets w = explored("(role a)", 1);
        Check.due("a state may be empty", 0, () -> w.state(0, 0));
    }

    /** What a sheet before has left doesn't show. */
    private static void another() {
        RuleSheets x = explored(graph("00 01", "0", "1:100"), 2);
        Check.due("a circle", 6, () -> x.defect(0));
        x.end(0);
        Check.write(x, "(role a)(role b)(init s)terminal(goal a 30)(goal b 70)");
        x.read();
        Check.refused("value(0) of a new sheet", IllegalStateException.class, () -> x.value(0));
        Check.due("explore() of a new sheet", 1, x::explore);
        Check.due("its defect", 0, () -> x.defect(0));
        Check.due("its value", 30, () -> x.value(0));
        Check.due("its best", -1, () -> x.best(0));
        Check.refused("its state 1", IndexOutOfBoundsException.class, () -> x.state(1, 0));
        x.end(16);
        Check.due("one more sheet", 0, x::read);
        Check.due("that has a defect", 1, x::explore);
        Check.due("namely that", 2, () -> x.defect(0));
        Check.due("in state 0", 0, () -> x.defect(1));
    }

    public static void main(String[] args) {
        heap();
        numbers();
        worths();
        defects();
        counts();
        another();
        Check.finish();
    }
}
