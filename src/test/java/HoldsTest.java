/** Terms 3, WHAT HOLDS: what rules bring, and what is too great, at its edges. */
public final class HoldsTest {
    private static final String LONGEST = "(abcdefghijklmnop abcdefghijklmnop abcdefghijkl)";
    private static final String TOO_LONG = "(abcdefghijklmnop abcdefghijklmnop abcdefghijklm)";

    private HoldsTest() {
    }

    private static void starts(String what, String text, int count) {
        Check.due("start() " + what, count, Check.reading(text)::start);
    }

    private static void tooGreat(String what, String text) {
        RuleSheets x = Check.reading(text);
        Check.refused("start() " + what, UnsupportedOperationException.class, x::start);
        Check.refused("no state " + what, IllegalStateException.class, () -> x.moves(0));
        Check.refused("explore() " + what, UnsupportedOperationException.class, x::explore);
        Check.refused("explore() again " + what, UnsupportedOperationException.class, x::explore);
        Check.refused("states unknown " + what, IllegalStateException.class, () -> x.defect(0));
    }

    /** What holds is told by moves of a role a. */
    private static void holds(String rules, int count, String want) {
        PlayTest.moves("moves by " + rules, Check.started("(role a)" + rules), 0, count, want);
    }

    /** "true(t) for each t of the state, does(r, m) for each move" */
    private static void assumed() {
        holds("(<= (legal a ?x) (true ?x))", 0, "");
        holds("(init b)(<= (legal a ?x) (true ?x))", 1, "b");
        holds("(init b)(init (f c))(<= (legal a ?x) (true ?x))", 2, "(f c) b");
        holds("(<= (legal a b) (true c))(<= (legal a d) (not (true c)))(init c)", 1, "b");
        RuleSheets x = Check.started("(role a)(role b)(legal a m)(legal b n)(<= (next (did ?r ?m)) (does ?r ?m))(<= (next no) (not (does a n)))");
        Check.due("two moves are done", 3, () -> x.play(0));
        PlayTest.terms("both", x, 3, "(did a m) (did b n) no");
        RuleSheets y = Check.started("(role a)(legal a m)(<= (next ?x) (true ?x))(<= (next (d ?m)) (does a ?m))(<= (p ?m) (does a ?m))(<= (q c) (not (p m)))(init s)");
        Check.due("moves aren't done while they are looked at", 1, () -> y.moves(0));
        Check.due("and are by play", 2, () -> y.play(0));
        Check.due("only once", 2, () -> y.play(0));
    }

    /** "for each way to put terms without variables in the place of a rule's variables so that its positive conditions hold" */
    private static void positive() {
        holds("(p b)(p c)(<= (legal a ?x) (p ?x))", 2, "b c");
        holds("(p b)(p c)(q c)(<= (legal a ?x) (p ?x) (q ?x))", 1, "c");
        holds("(p b b)(p b c)(<= (legal a ?x) (p ?x ?x))", 1, "b");
        holds("(p (f b (g c)))(p (f b d))(p (f b))(<= (legal a ?x) (p (f ?y (g ?x))))", 1, "c");
        holds("(p (f b))(p (f b c))(<= (legal a ?x) (p (f ?x)))", 1, "b");
        holds("(<= (legal a b) (role a) (legal c d))(<= (legal c d) (distinct a b))", 1, "b");
        holds("(<= (legal ?x ?y) (role ?x) (goal ?x ?y))(goal a 5)(goal b 6)", 1, "5");
        holds("(p b)(<= (legal a ?x) (p ?x) (never ?x))", 0, "");
        holds("(p b)(<= (legal a m))", 1, "m");
        holds("(p 1 2 3 4)(p 5 6 7 8)(<= (legal a (f ?a ?b ?c ?d)) (p ?a ?b ?c ?d))", 2, "(f 1 2 3 4) (f 5 6 7 8)");
        RuleSheets x = Check.started("(role a)(p 1 2)(p 3 4)"
            + "(<= (legal a (f (f ?a ?b ?c ?d) (f ?e ?f ?g ?h))) (p ?a ?b) (p ?c ?d) (p ?e ?f) (p ?g ?h))");
        Check.due("moves by eight variables", 16, () -> x.moves(0));
        Check.same("the first of them", "(f (f 1 2 1 2) (f 1 2 1 2))", Check.text(x, 1, 0));
        Check.same("the last of them", "(f (f 3 4 3 4) (f 3 4 3 4))", Check.text(x, 1, 15));
    }

    /** "its negative ones don't, and terms that must be distinct are so" */
    private static void negative() {
        holds("(p b)(p c)(q c)(<= (legal a ?x) (p ?x) (not (q ?x)))", 1, "b");
        holds("(p b)(p c)(<= (legal a (f ?x ?y)) (p ?x) (p ?y) (distinct ?x ?y))", 2, "(f b c) (f c b)");
        holds("(p b)(<= (legal a ?x) (p ?x) (distinct (f ?x) (f b)))", 0, "");
        holds("(p b)(p (g b))(<= (legal a ?x) (p ?x) (distinct (g ?x) (g (g b))))", 1, "b");
        holds("(p (g b))(p b)(<= (legal a ?x) (p (g ?x)) (distinct (g ?x) b) (distinct ?x c))", 1, "b");
        holds("(<= (legal a b) (not (p (f (f (f c))))))(p c)", 1, "b");
        holds("(<= (legal a b) (not (true c)))(<= (legal a d) (not (not_ c)))", 2, "b d");
        holds("(q role)(p b)(<= (legal a ?x) (p ?x) (not (q (f ?x))))", 1, "b");
        holds("(p role)(p init)(<= (legal a m) (p role))(<= (legal a n) (p next))(<= (legal a role) (p ?x) (distinct ?x role))"
            + "(<= (legal a (f role)) (p init) (distinct role next))(<= (legal a o) (distinct role role))", 3, "(f role) m role");
        holds("(<= (legal a b) (distinct (f c) (f c d)))(<= (legal a c) (distinct (f c) (g c)))(<= (legal a d) (distinct f (f c)))", 3, "b c d");
        holds("(p role)(p init)(<= (legal a ?x) (p ?x) (distinct role ?x))", 1, "init");
        holds("(p role)(p init)(<= (legal a ?x) (p ?x) (distinct ?x role))", 1, "init");
        holds("(p (f b c))(p (f c b))(p (f b b))(<= (legal a ?x) (p ?x) (distinct ?x (f b b)))", 2, "(f b c) (f c b)");
        holds("(p b c)(p c b)(p b b)(<= (legal a (g ?x ?y)) (p ?x ?y) (distinct (f ?x ?y) (f ?y ?x)))", 2, "(g b c) (g c b)");
        holds("(p b c)(p c b)(p b b)(<= (legal a (g ?x ?y)) (p ?x ?y) (distinct (f b ?y) (f ?x b)))", 2, "(g b c) (g c b)");
        holds("(p b c)(p c b)(p b b)(<= (legal a (g ?x ?y)) (p ?x ?y) (distinct (f a ?x a ?y) (f a b a c)))", 2, "(g b b) (g c b)");
        holds("(p b c)(p c b)(p b b)(<= (legal a (g ?x ?y)) (p ?x ?y) (distinct (f (h ?x d) (h ?y ?x)) (f (h b d) (h c b))))", 2, "(g b b) (g c b)");
        holds("(<= (legal a b) (distinct (f c d) (f c d)))(<= (legal a c) (distinct (f c d) (f d d)))(<= (legal a d) (distinct (f c d) (f c c)))", 2, "c d");
        holds("(p b c)(q b c)(q c b)(q b b)(<= (legal a (g ?x ?y)) (q ?x ?y) (not (p ?x ?y)))", 2, "(g b b) (g c b)");
        holds("(p (f b c))(q b c)(q c b)(q b b)(<= (legal a (g ?x ?y)) (q ?x ?y) (not (p (f ?x ?y))))", 2, "(g b b) (g c b)");
        holds("(p c c)(<= (legal a b) (p ?x ?y) (distinct ?x ?y))(<= (legal a d) (p ?x ?y) (not (p ?x ?y)))", 0, "");
    }

    /** "as long as anything new comes": also where a condition of a group sees an atom that comes late. */
    private static void recursion() {
        holds("(e 1 2)(e 2 3)(e 3 4)(e 4 2)(<= (w ?x ?y) (e ?x ?y))(<= (w ?x ?z) (w ?x ?y) (e ?y ?z))(<= (legal a ?x) (w 2 ?x))", 3, "2 3 4");
        holds("(e 1 2)(e 2 3)(e 3 4)(<= (w ?z) (e 1 ?z))(<= (v ?z) (w ?y) (e ?y ?z))(<= (w ?z) (v ?y) (e ?y ?z))"
            + "(<= (legal a (w ?x)) (w ?x))(<= (legal a (v ?x)) (v ?x))", 3, "(v 3) (w 2) (w 4)");
        holds("(e 1 2)(e 2 3)(e 3 4)(e 4 5)(d 1)(d 2)(d 3)(d 4)(d 5)"
            + "(<= (w ?x ?y) (e ?x ?y))(<= (w ?x ?z) (w ?x ?y) (w ?y ?z) (d ?y))(<= (legal a ?x) (w 1 ?x))", 4, "2 3 4 5");
        holds("(d 1)(d 2)(d 3)(<= (p ?x) (q ?x))(<= (q 1))(<= (q ?y) (p ?x) (s ?x ?y))(s 1 2)(s 2 3)"
            + "(<= (both ?x ?y) (p ?x) (q ?y) (d ?x) (d ?y))(<= (legal a (f ?x ?y)) (both ?x ?y))", 9,
            "(f 1 1) (f 1 2) (f 1 3) (f 2 1) (f 2 2) (f 2 3) (f 3 1) (f 3 2) (f 3 3)");
        StringBuilder chain = new StringBuilder("(<= (legal a p0) p0)");
        for (int k = 0; k < 57; k++) {
            chain.append("(<= p").append(k).append(" p").append(k + 1).append(')');
        }
        holds(chain.toString(), 0, "");
        holds(chain + "p57", 1, "p0");
    }

    /** "a relation's atoms all together ahead of any rule with a negative condition of it" */
    private static void strata() {
        holds("(<= (legal a b) (not p))(<= (legal a c) (not q))(<= q (not p))", 1, "b");
        holds("(n 0)(s 0 1)(s 1 2)(<= (n ?y) (n ?x) (s ?x ?y))(<= (legal a ?x) (n ?x) (not (last ?x)))(<= (last ?x) (n ?x) (not (on ?x)))(<= (on ?x) (s ?x ?y))", 2, "0 1");
        holds("(k 1)(k 2)(k 3)(k 4)(e 1 2)(e 2 3)(<= (w ?y) (e 1 ?y))(<= (w ?z) (w ?y) (e ?y ?z))(<= (legal a ?x) (k ?x) (not (w ?x)))", 2, "1 4");
        holds("(<= (legal a b) (not p))(<= p q)(<= q r)r", 0, "");
        holds("(<= (legal a b) (not p))(<= p (not q))(<= q (not r))", 1, "b");
        holds("(<= (legal a b) (not p))(<= p (not q))(<= q (not r))(<= r (not s))", 0, "");
    }

    /** The order in which the rules stand has no part in what holds. */
    private static void anyOrder() {
        String[] rules = {"(<= (init ?x) (p ?x) (not (q ?x)))", "(<= (p ?y) (p ?x) (s ?x ?y))(p 0)", "(<= (q ?x) (p ?x) (not (w ?x)))", "(<= (w ?x) (s ?x ?y))", "(s 0 1)(s 1 2)(s 3 4)(<= (p 3) (p 2))"};
        for (int order = 0; order < 120; order++) {
            StringBuilder text = new StringBuilder();
            boolean[] used = new boolean[5];
            int left = order;
            for (int k = 5; k > 0; k--) {
                int skip = left % k;
                left /= k;
                int at = 0;
                while (used[at] || skip-- > 0) {
                    at++;
                }
                used[at] = true;
                text.append(rules[at]);
            }
            PlayTest.terms("order " + order, Check.started(text.toString()), 3, "0 1 3");
        }
        starts("with a first rule that needs the last", "(<= (init a) p) (<= p q) (<= q r) r", 1);
        starts("with a first rule that needs that the last doesn't hold", "(<= (init a) (not p)) (<= p q) (<= q r) r", 0);
    }

    /** Terms are alike by what they are, however many come, and however they are held. */
    private static void manyTerms() {
        RuleSheets x = Check.started("(role a)" + Check.facts("d", 28) + "(<= (k (g ?x)) (d ?x))(<= (pair (g ?x) (e (f (g ?y) (g ?x)))) (d ?x) (d ?y))"
            + "(<= (legal a (m ?t)) (k ?t) (pair ?t ?u))(<= (legal a (n ?t)) (pair ?t (e (f ?t ?t))))"
            + "(<= (next (u a (e ?m ?m) b (h ?m c))) (does a ?m))(<= (next (u ?x ?y ?z ?z)) (true (u ?x ?y ?z ?w)))(<= (next (i ?w (g ?w))) (true (u ?x ?y ?z ?w)))");
        Check.due("its moves", 56, () -> x.moves(0));
        Check.same("the first", "(m (g 0))", Check.text(x, 1, 0));
        Check.same("the last of one kind", "(m (g 9))", Check.text(x, 1, 27));
        Check.same("the last of all", "(n (g 9))", Check.text(x, 1, 55));
        int[] terms = {1, 3, 4, 4};
        for (int count : terms) {
            Check.due("play", count, () -> x.play(27));
        }
        String move = "(m (g 9))";
        String with = "(h " + move + " c)";
        String both = "(u a (e " + move + " " + move + ") b ";
        PlayTest.terms("what is kept of it", x, 4, "(i " + with + " (g " + with + ")) (i b (g b)) " + both + with + ") " + both + "b)");
    }

    /** "(So an atom holds just if it has to.)" */
    private static void least() {
        holds("(<= (legal a b) q)(<= q r)(<= r q)", 0, "");
        holds("(<= (legal a b) (not q))(<= q r)(<= r q)", 1, "b");
        holds("(<= (legal a b) (legal a b))", 0, "");
        holds("(<= (legal a ?x) (p ?x))(<= (p ?x) (legal a ?x))(<= (p c) (not (q c)))", 1, "c");
    }

    /** 9 + 729 + 15 + 225 = 978 atoms, and so many more. */
    static String atoms(int more) {
        return Check.facts("d", 9) + "(<= (p ?x ?y ?z) (d ?x) (d ?y) (d ?z))" + Check.facts("e", 15) + "(<= (q ?x ?y) (e ?x) (e ?y))" + Check.facts("r", more);
    }

    /** "TOO GREAT is what has more than 1000 atoms that hold" */
    private static void thousand() {
        starts("with 999 atoms", atoms(21), 0);
        starts("with 1000 atoms", atoms(22), 0);
        tooGreat("with 1001 atoms", atoms(23));
        starts("with 1000 atoms, init too", atoms(21) + "(init a)", 1);
        tooGreat("with 1001 atoms, init too", atoms(22) + "(init a)");
        starts("with 1000 atoms, role too", atoms(21) + "(role a)", 0);
        tooGreat("with 1001 atoms, role too", atoms(22) + "(role a)");
        starts("with 1000 atoms, one without terms", atoms(21) + "w", 0);
        tooGreat("with 1001 atoms, one without terms", atoms(22) + "w");
        starts("with 1000 atoms, some in several ways", atoms(22) + "(r 0)(<= (r ?x) (r ?x) (d ?x))(<= (d ?x) (r ?x) (d ?x))", 0);
        String twice = atoms(0) + "(<= (s ?x) (d ?x))(<= (s (f ?x)) (s ?x) (d ?x))";
        starts("with 1000 atoms, 9 of them by recursion", twice + Check.facts("w", 4), 0);
        tooGreat("with 1001 atoms, 9 of them by recursion", twice + Check.facts("w", 5));
    }

    /** "true and does and all relations counted" */
    private static void trueAndDoes() {
        RuleSheets x = Check.started(atoms(19) + "(role a)(init a)(<= (legal a b) (not (true a)))");
        Check.due("1000 atoms with true", 0, () -> x.moves(0));
        greatState(atoms(20) + "(role a)(init a)(<= (legal a b) (true a))");
        greatState(atoms(20) + "(role a)(init a)");
        RuleSheets y = Check.started(atoms(17) + "(role a)(init a)(<= (legal a b) (true a))");
        Check.due("1000 atoms with does", 0, () -> y.play(0));
        String more = atoms(18) + "(role a)(init a)(<= (legal a b) (true a))";
        Check.due("1000 atoms with the move", 1, () -> Check.started(more).moves(0));
        Check.leaves("play(0) to 1001 atoms with does", UnsupportedOperationException.class, () -> Check.started(more), z -> z.play(0));
        Check.leaves("play(1), which there isn't", IndexOutOfBoundsException.class, () -> Check.started(more), z -> z.play(1));
        Check.leaves("explore() with it", UnsupportedOperationException.class, () -> Check.started(more), RuleSheets::explore);
    }

    /**
     * "whatever is asked for", and "A call for which it comes to something too great throws
     * UnsupportedOperationException and changes nothing": of a state a of one role a, which start() can reach.
     */
    private static void greatState(String text) {
        Check.Maker maker = () -> Check.started(text);
        Class<UnsupportedOperationException> great = UnsupportedOperationException.class;
        Class<IndexOutOfBoundsException> none = IndexOutOfBoundsException.class;
        Check.leaves("moves(0) too great", great, maker, x -> x.moves(0));
        Check.leaves("terminal() too great", great, maker, x -> x.terminal() ? 1 : 0);
        Check.leaves("goal(0) too great", great, maker, x -> x.goal(0));
        Check.leaves("play(0) too great", great, maker, x -> x.play(0));
        Check.leaves("play of a great number too great", great, maker, x -> x.play(Integer.MAX_VALUE));
        Check.leaves("sign(1,0,0) too great", great, maker, x -> x.sign(1, 0, 0));
        Check.leaves("sign(1,99,0) too great", great, maker, x -> x.sign(1, 99, 0));
        Check.leaves("explore() too great", great, maker, RuleSheets::explore);
        Check.leaves("moves(1) of no role", none, maker, x -> x.moves(1));
        Check.leaves("goal(-1) of no role", none, maker, x -> x.goal(-1));
        Check.leaves("play(-1)", none, maker, x -> x.play(-1));
        Check.leaves("sign(1,-1,0)", none, maker, x -> x.sign(1, -1, 0));
        Check.leaves("sign(1,0,-1)", none, maker, x -> x.sign(1, 0, -1));
        Check.leaves("sign(2,0,0) of no role", none, maker, x -> x.sign(2, 0, 0));
        RuleSheets x = Check.started(text);
        for (int n = 0; n < 2; n++) {
            Check.refused("moves(0), time " + n, great, () -> x.moves(0));
            Check.refused("terminal(), time " + n, great, () -> x.terminal() ? 1 : 0);
            Check.refused("explore(), time " + n, great, x::explore);
            Check.due("sign(0,0,0) of it", 'a', () -> x.sign(0, 0, 0));
            Check.due("sign(5,0,0) of it", 'a', () -> x.sign(5, 0, 0));
            Check.due("start() is well", Check.started(text).start(), x::start);
        }
    }

    /** "or one with a term whose text (4) has more than 48 signs" */
    private static void longTerms() {
        Check.holds("48 and 49 signs", LONGEST.length() == 48 && TOO_LONG.length() == 49);
        starts("with a term of 48 signs", "(init " + LONGEST + ")", 1);
        tooGreat("with a term of 49 signs", "(init " + TOO_LONG + ")");
        starts("with four terms of 48 signs", "(p " + Check.repeat(LONGEST + " ", 4) + ")", 0);
        for (int k = 0; k < 4; k++) {
            tooGreat("with term " + k + " of 49 signs", "(p " + Check.repeat(LONGEST + " ", k) + TOO_LONG + Check.repeat(" " + LONGEST, 3 - k) + ")");
        }
        starts("with 48 signs that a rule brings", "(p (c abcdefghijklm))(<= (q (abcdefghijklmn (c ?x) ?x)) (p (c ?x)))", 0);
        tooGreat("with 49 signs that a rule brings", "(p (c abcdefghijklm))(<= (q (abcdefghijklmno (c ?x) ?x)) (p (c ?x)))");
        starts("with 48 signs, the blanks counted", "(p (a b c (d e f (g h i (j k l (m n o (p q rs)))))))", 0);
        tooGreat("with 49 signs, the blanks counted", "(p (a b c (d e f (g h i (j k l (m n o (p q rst)))))))");
        tooGreat("with terms that grow", "(q a)(<= (p (f ?x ?y)) (q ?x) (q ?y))(<= (w (abcdefghijklmnop (abcdefghijklmnop ?x) abcdef)) (p ?x))");
        String great = "(role a)(init a)(<= (legal a " + TOO_LONG + ") (true a))";
        greatState(great);
        Check.due("a move of 48 signs", 1, () -> Check.started(great.replace(TOO_LONG, LONGEST)).moves(0));
        greatState(great.replace("(legal a", "(goal a"));
        greatState(great.replace("(legal a", "(other a"));
    }

    /** The 48 signs are asked of atoms that hold, not of what stands in conditions. */
    private static void longConditions() {
        starts("with a long text that must not hold, or be distinct", "(p b)(<= (init a) (p ?x) (not (q " + TOO_LONG + ")) (distinct ?x " + TOO_LONG + "))", 1);
        starts("with a long text in a condition that doesn't hold", "(<= (init a) (p " + TOO_LONG + "))(init b)", 1);
        starts("with a long text in a head that doesn't hold", "(<= (init " + TOO_LONG + ") (p a))(init b)", 1);
        RuleSheets x = Check.reading("(role " + TOO_LONG + ")");
        Check.due("roles of any length", 1, () -> x.sheet(1));
        Check.same("a role of 49 signs", TOO_LONG, Check.text(x, 5, 0));
        tooGreat("with a role of 49 signs", "(role " + TOO_LONG + ")");
        starts("with a role of 48 signs", "(role " + LONGEST + ")", 0);
    }

    /** Terms that grow by a move, until they are too great; the state stays as it was. */
    private static void growing() {
        String sheet = "(role a)(init z)(legal a m)(<= (next (f ?x)) (true ?x) (does a m))";
        String last = Check.repeat("(f ", 11) + "z" + Check.repeat(")", 11);
        Check.Maker maker = () -> grown(sheet, 11);
        Check.same("45 signs", last, Check.text(maker.make(), 0, 0));
        Check.leaves("play(0) to 49 signs", UnsupportedOperationException.class, maker, x -> x.play(0));
        Check.leaves("explore() to 49 signs", UnsupportedOperationException.class, maker, RuleSheets::explore);
        RuleSheets x = maker.make();
        Check.refused("49 signs", UnsupportedOperationException.class, () -> x.play(0));
        Check.same("the state stays", last, Check.text(x, 0, 0));
        Check.due("its moves too", 'm', () -> x.sign(1, 0, 0));
        Check.refused("all states", UnsupportedOperationException.class, x::explore);
        Check.same("the state stays still", last, Check.text(x, 0, 0));
        RuleSheets y = grown("(role a)(init z)(legal a m)(<= (next (f ?x)) (true ?x))", 11);
        Check.refused("next is worked out for moves, too", UnsupportedOperationException.class, () -> y.moves(0));
        RuleSheets z = grown("(role a)(init zzzz)(legal a m)(<= (next (f ?x)) (true ?x) (does a m))", 11);
        Check.same("48 signs", last.replace("z", "zzzz"), Check.text(z, 0, 0));
    }

    private static RuleSheets grown(String sheet, int steps) {
        RuleSheets x = Check.started(sheet);
        for (int n = 1; n <= steps; n++) {
            Check.due("step " + n, 1, () -> x.play(0));
        }
        return x;
    }

    /** Relations of 100, 50 and 60 atoms. */
    private static String rooms(String more) {
        return Check.facts("d", 10) + Check.facts("e", 5) + Check.facts("g", 6)
            + "(<= (xx ?a ?b) (d ?a) (d ?b))(<= (yy ?a ?b) (d ?a) (e ?b))(<= (zz ?a ?b) (d ?a) (g ?b))" + more;
    }

    /** "or a rule whose ROOM is above 300000" */
    private static void rooms() {
        starts("with a room of 300000", rooms("(<= (init ?a) (xx ?a ?b) (yy ?a ?b) (zz ?b ?c))"), 10);
        // 491 * 47 * 13
        tooGreat("with a room of 300001", Check.facts("d", 22) + "(<= (xx ?a ?b) (d ?a) (d ?b))" + Check.facts("xx x", 7)
            + Check.facts("h", 2) + "(<= (yy ?a ?b) (d ?a) (h ?b))" + Check.facts("yy x", 3) + Check.facts("m", 6) + "(<= (zz ?a ?b) (h ?a) (m ?b))(zz x x)"
            + "(<= w (xx ?a n) (yy ?b n) (zz ?c n))");
        tooGreat("with a room of 305000", rooms("(zz a b)(<= (init ?a) (xx ?a ?b) (yy ?a ?b) (zz ?b ?c))"));
        starts("with a room of 300000 of a recursive rule", rooms("(<= (c ?x ?y) (xx ?x ?y))(<= (c ?x ?y) (c ?x ?y) (yy ?a ?b) (zz ?c ?d))"), 0);
        tooGreat("with a room of a rule of a group", rooms("(<= (c ?x ?y) (xx ?x ?y))(<= (c ?x ?y) (c ?x ?y) (xx ?x ?y) (c ?y ?x))"));
        tooGreat("with a room of 303000 of a recursive rule", rooms("(c z z)(<= (c ?x ?y) (xx ?x ?y))(<= (c ?x ?y) (c ?x ?y) (yy ?a ?b) (zz ?c ?d))"));
        tooGreat("with a room of 10 to the 16th", rooms("(<= init_ (xx ?a ?b) (xx ?c ?d) (xx ?e ?f) (xx ?g ?h) (xx ?a ?b) (xx ?a ?b) (xx ?a ?b) (xx ?a ?b))"));
        greatState(rooms("(role a)(init a)(<= (legal a m) (true a) (xx ?a ?b) (xx ?c ?d) (yy ?e ?f))"));
    }

    /** "the product, over its positive conditions, of how many atoms of the relation hold" */
    private static void productOfPositive() {
        starts("with a room of 0 at last", rooms("(init s)(<= w (xx ?a ?b) (xx ?c ?d) (xx ?e ?f) (xx ?g ?h) (none ?a))"), 1);
        starts("with a room of 0 at first", rooms("(init s)(<= w (none ?a) (xx ?a ?b) (xx ?c ?d) (xx ?e ?f) (xx ?g ?h))"), 1);
        starts("with conditions that are no part of the room", rooms("(init s)(<= w (xx ?a ?b) (yy ?c ?d) (zz ?e ?f) (not (xx ?a ?c)) (distinct ?a ?b))"), 1);
        starts("with a room that matches nothing", rooms("(init s)(<= w (xx no ?b) (yy ?b ?d) (zz ?d ?f))"), 1);
        tooGreat("with a great room that matches nothing", rooms("(init s)(<= w (xx no ?b) (xx ?b ?d) (yy ?d ?f))"));
        tooGreat("with a great room without variables", rooms("(init s)(<= w (xx 1 1) (xx 1 1) (xx 1 1))"));
        starts("with a relation twice, 90000", rooms("(<= w (xx 1 1) (xx 1 1) (g 1) (e 1))"), 0);
        tooGreat("with a head's own relation", rooms("(<= (c ?a ?b) (xx ?a ?b))(<= (c ?a ?b) (c ?a ?b) (c ?a ?b) (c ?a ?b))"));
    }

    /** Atoms of true and does are counted for rooms like all others. */
    private static void roomsOfTrueAndDoes() {
        String one = rooms("(role a)(init a)(<= (legal a m) (true ?t) (xx ?a ?b) (yy ?c ?d) (zz ?e ?f))");
        Check.due("a room of 300000 with true", 1, () -> Check.started(one).moves(0));
        greatState(one + "(init b)");
        String done = rooms("(role a)(init a)(legal a m)(<= w (does ?r ?t) (xx ?a ?b) (yy ?c ?d) (zz ?e ?f))");
        Check.due("a room of 300000 with does", 0, () -> Check.started(done).play(0));
        String two = done + "(role b)(legal b m)";
        Check.due("moves where the room with does is too great", 1, () -> Check.started(two).moves(1));
        Check.leaves("a room of 600000 with does", UnsupportedOperationException.class, () -> Check.started(two), x -> x.play(0));
    }

    public static void main(String[] args) {
        assumed();
        positive();
        negative();
        recursion();
        strata();
        anyOrder();
        manyTerms();
        least();
        thousand();
        trueAndDoes();
        longTerms();
        longConditions();
        growing();
        rooms();
        productOfPositive();
        roomsOfTrueAndDoes();
        Check.finish();
    }
}
