/** Promises 4 (read), 5 (fault) and 6 (sheet). */
public final class ReadTest {
    private static final String SIXTEEN = "abcdefghijklm_09";

    private ReadTest() {
    }

    /** The fault is where | stands, which is left out. */
    private static void noSheet(String marked) {
        int where = marked.indexOf('|');
        Check.fault(marked.replace("|", ""), 1, where);
    }

    private static void well(String text) {
        Check.fault(text, 0, -1);
    }

    private static void tokens() {
        well("a");
        well("a\n;comment ( ? < A\n b");
        well("a;comment at the end");
        well("(p a)(q b);");
        well("(<=(p ?x)(q?x))(q a)");
        well("(<= (p ?x ?y) (q ?x?y))");
        well(SIXTEEN);
        well("(<= (p ?" + SIXTEEN + ") (q ?" + SIXTEEN + "))");
        well("(<= p (q ?not ?distinct))");
        well("(<=p)");
        noSheet("|");
        noSheet("  \n |");
        noSheet("; nothing|");
        noSheet("|" + SIXTEEN + "a");
        noSheet("(p |" + SIXTEEN + "a)");
        noSheet("(p |?" + SIXTEEN + "a)");
        noSheet("a |A");
        noSheet("a |=");
        noSheet("a |?x");
        noSheet("(p |? x)");
        noSheet("(p |?)");
        noSheet("(p |??x)");
        noSheet("(|< = a)");
        noSheet("(|<");
        noSheet("a |<= b");
        noSheet("(<=|<= a)");
        noSheet("(p a|-b)");
        noSheet("|.");
    }

    private static void grammar() {
        noSheet("(|");
        noSheet("(|)");
        noSheet("|)");
        noSheet("(p|)");
        noSheet("(p a|");
        noSheet("(p a) b |)");
        noSheet("(|(p) a)");
        noSheet("(|?x a)");
        noSheet("(p (|))");
        noSheet("(p (f|))");
        noSheet("(p (|?x a))");
        noSheet("(p |<= a)");
        noSheet("(<= |)");
        noSheet("(<= |?x)");
        noSheet("(<= a |?x)");
        noSheet("(<= a (|?x b))");
        noSheet("(<= a (|<= b))");
        noSheet("(<= a b|");
        well("(p a b c d)");
        noSheet("(p a b c d |e)");
        noSheet("(p a b c d |(f");
        well("(p (f a b c d))");
        noSheet("(p (f a b c d |?e))");
        well("(<= a b c d e f g h i)");
        noSheet("(<= a b c d e f g h i |j)");
        noSheet("(<= a b c d e f g h i |(not j))");
        noSheet("(<= a b c d e f g h i |not)");
        well("(<= (p ?a ?b ?c ?d) (q ?e ?f ?g ?h) (p ?d ?c ?b ?a) (q ?a ?b ?c ?d))");
        noSheet("(<= (p ?a ?b ?c ?d) (q ?e ?f ?g ?h) (p ?d ?c ?b |?i) (q ?a ?b ?c ?j))");
        noSheet("(<= a (p ?a ?b ?c ?d) (q ?e ?f ?g ?h) (distinct ?a |?i))");
    }

    private static void words() {
        noSheet("|not");
        noSheet("|distinct");
        noSheet("(|not a)");
        noSheet("(|distinct a b)");
        noSheet("(p |not)");
        noSheet("(p (|distinct a b))");
        noSheet("(<= |not a)");
        noSheet("(<= (|not a) b)");
        noSheet("(<= (|distinct a b) b)");
        noSheet("(<= a |not)");
        noSheet("(<= a |distinct)");
        noSheet("(<= a (not (|not b)))");
        noSheet("(<= a (not |not))");
        noSheet("(<= a (not (|distinct b c)))");
        noSheet("(<= a (distinct b (|not c)))");
        noSheet("(<= a (distinct |distinct c))");
        noSheet("(<= a (not|))");
        noSheet("(<= a (not |?x))");
        noSheet("(<= a (not b |c))");
        noSheet("(<= a (distinct|))");
        noSheet("(<= a (distinct b|))");
        noSheet("(<= a (distinct b c |d))");
        well("(<= a (not (nota b)) (distinct distinct_ c))");
        well("(<= a (p ?x) (distinct (f ?x) ?x))");
    }

    private static void depth() {
        well(Check.repeat("(f ", 10) + "a" + Check.repeat(")", 10));
        noSheet(Check.repeat("(f ", 10) + "|(f a" + Check.repeat(")", 11));
        well("(<= " + Check.repeat("(f ", 9) + "a" + Check.repeat(")", 10));
        noSheet("(<= " + Check.repeat("(f ", 9) + "|(f a" + Check.repeat(")", 11));
        well("(<= a " + Check.repeat("(f ", 9) + "a" + Check.repeat(")", 10));
        noSheet("(<= a " + Check.repeat("(f ", 9) + "|(f a");
        well("(<= a (not " + Check.repeat("(f ", 8) + "a" + Check.repeat(")", 10));
        noSheet("(<= a (not " + Check.repeat("(f ", 8) + "|(f a" + Check.repeat(")", 11));
        well("(<= a (distinct b " + Check.repeat("(f ", 8) + "a" + Check.repeat(")", 10));
        noSheet("(<= a (distinct b " + Check.repeat("(f ", 8) + "|(");
    }

    private static void sixty() {
        well(Check.repeat("a ", 60));
        noSheet(Check.repeat("a ", 60) + "|a");
        noSheet(Check.repeat("(<= a) ", 60) + "|(<= a)");
        noSheet(Check.repeat("a ", 60) + "|?");
        well(Check.repeat("a ", 60) + " ; no more");
        Check.fault(Check.repeat("(", 2000), 1, 1);
        Check.fault(Check.repeat(")", 2000), 1, 0);
        Check.fault("a ;" + Check.repeat("(", 1997), 0, -1);
        well("(p" + Check.repeat(" (f a b c d)", 4) + ") " + Check.repeat("b(q a)\n", 29));
    }

    private static void numbers() {
        Check.fault("(p a) (p b) (p a b)", 2, 2);
        Check.fault("(p a) p", 2, 1);
        Check.fault("(<= (p a) (p a b))", 2, 0);
        Check.fault("a (<= b (not (p a)) (not (p a b)))", 2, 1);
        Check.fault("a (<= b (q a)) (<= c (not (q a b)))", 2, 2);
        Check.fault("role", 2, 0);
        Check.fault("(init a b)", 2, 0);
        Check.fault("(next a b)", 2, 0);
        Check.fault("(<= p (true a b))", 2, 0);
        Check.fault("a (<= p true)", 2, 1);
        Check.fault("(<= p (does a))", 2, 0);
        Check.fault("(legal a)", 2, 0);
        Check.fault("(goal a 1 2)", 2, 0);
        Check.fault("(terminal a)", 2, 0);
        Check.fault("(does a)", 2, 0);
        Check.fault("(true a) (p a) p", 2, 2);
        well("(p p) (q (p a b) (role a b) (true a b c))");
        well("(<= a (distinct (p a) (p a b)) (distinct p q))");
        well("terminal");
    }

    private static void heads() {
        Check.fault("a (true b)", 3, 1);
        Check.fault("(does a b)", 3, 0);
        Check.fault("(<= (true a) b)", 3, 0);
        Check.fault("(role ?x)", 3, 0);
        Check.fault("(role (f a ?x))", 3, 0);
        Check.fault("(<= (role a) b)", 3, 0);
        Check.fault("(<= (role a) (distinct b c))", 3, 0);
        Check.fault("(<= (role ?x))", 3, 0);
        well("(<= (role a))");
        well("(<= (role (f a b)))");
        Check.fault("a a (<= a (init b))", 3, 2);
        Check.fault("(<= a (next b))", 3, 0);
        Check.fault("(<= a (not (init b)))", 3, 0);
        Check.fault("(<= a b (not (next b)))", 3, 0);
        well("(<= a (distinct init next) (legal init next) (not (goal b true)))");
        well("(<= (init a)) (<= (next a))");
    }

    private static void dependence() {
        Check.fault("(<= (init a) (true b))", 4, 0);
        Check.fault("(<= (init a) (not (true b)))", 4, 0);
        Check.fault("(<= (init a) (does b c))", 4, 0);
        Check.fault("(<= (legal a b) (does b c))", 4, 1);
        Check.fault("(<= (goal a b) (not (does b c)))", 4, 2);
        Check.fault("(<= terminal (does b c))", 4, 3);
        Check.fault("(<= terminal p) (<= p (not q)) (<= q r) (<= r (does a b))", 4, 3);
        Check.fault("(<= terminal p) (<= (goal a b) p) (<= (legal a b) p) (<= p (does a b))", 4, 1);
        Check.fault("(<= terminal p) (<= (goal a b) p) (<= p (does a b))", 4, 2);
        Check.fault("(<= terminal p) (<= (init a) (legal b b)) (<= (legal b b) (true a)) (<= p (does a b))", 4, 0);
        Check.fault("(<= p (goal a ?x)) (<= (goal a b) q) (<= q (legal a b)) (<= (legal a b) (does a b))", 4, 1);
        well("(<= (legal a b) (true c)) (<= (goal a b) (true c)) (<= terminal (true c))");
        well("(<= (next a) (does a b) (true c)) (<= p (does a b))");
        well("(<= (init a) (role b))");
    }

    private static void safety() {
        Check.fault("a (p ?x)", 5, 1);
        Check.fault("(<= (p ?x))", 5, 0);
        Check.fault("(<= (p ?x) (not (q ?x)))", 5, 0);
        Check.fault("(<= p (q ?x) (not (r ?y)))", 5, 0);
        Check.fault("(<= p (q ?x) (distinct ?x ?y))", 5, 0);
        Check.fault("(<= p (q ?x) (distinct (f ?y) ?x))", 5, 0);
        Check.fault("(<= (p (f (g ?y))) (q ?x))", 5, 0);
        Check.fault("(<= p (q a) (distinct ?x b))", 5, 0);
        Check.fault("(<= p (distinct ?x b) (q a)) (<= r (q ?x))", 5, 0);
        well("(<= (p ?x) (not (r ?x)) (distinct ?x a) (q (f ?x)))");
    }

    private static void strata() {
        Check.fault("(<= p (not p))", 6, 0);
        Check.fault("p (<= q (not r)) (<= r q)", 6, 1);
        Check.fault("(<= p q) (<= q (not r)) (<= r s) (<= s p)", 6, 1);
        Check.fault("(<= (legal a b) (not terminal)) (<= terminal (not (legal a b)))", 6, 0);
        well("(<= p (not q)) (<= q (not r)) (<= r s) (<= s r)");
        well("(<= p q) (<= q p) (<= r (not p))");
    }

    private static void recursion() {
        Check.fault("(<= (p (f ?x)) (p ?x))", 7, 0);
        Check.fault("a (<= (p ?x) (p (f ?x)))", 7, 1);
        well("(<= (p (f ?x)) (p (f ?x)))");
        well("(<= (p (f ?x)) (p ?x) (q ?x))");
        Check.fault("(<= (p (f ?x)) (p ?x) (q (g ?x)))", 7, 0);
        Check.fault("(<= (p (f ?x)) (p ?x) (q ?x)) (<= (q ?x) (p ?x))", 7, 0);
        well("(<= (p ?x) (p ?x) (p a) (p (f b)))");
        well("(<= (p ?x ?z) (p ?x ?y) (e ?y ?z))");
        well("(<= (p ?x ?z) (e ?x ?y) (p ?y ?z))");
        Check.fault("(<= (p ?x ?z) (p ?x ?y) (p ?y ?z))", 7, 0);
        Check.fault("(<= (p ?x) (q ?x ?y) (not (r ?y))) (<= (q ?x ?y) (p ?x) (p ?y) (p ?z))", 7, 0);
        well("(<= (p ?x) (q ?x ?y) (r ?y)) (<= (q ?x ?x) (p ?x))");
        well("(<= p q) (<= q p)");
        well("(<= (p ?x) (q (f ?x)))");
        well("(<= (p ?x ?y) (p b ?x) (q ?x ?y))");
        Check.fault("(<= (p ?x ?y) (p (f b) (f ?x)) (q ?x ?y))", 7, 0);
    }

    private static void firstGoes() {
        Check.fault("(p ?x) (<= p (not p)) (true a) ?", 1, 31);
        Check.fault("(p ?x) (<= (q a) (not (q a))) (true a) (p a b)", 2, 3);
        Check.fault("(p ?x) (<= (q a) (not (q a))) (true a)", 3, 2);
        Check.fault("(p ?x) (<= (q a) (not (q a))) (<= terminal (does a b))", 4, 3);
        Check.fault("(<= (q a) (not (q a))) (p ?x) (<= (s (f ?x)) (s ?x))", 5, 1);
        Check.fault("(<= (s (f ?x)) (s ?x)) (<= (q a) (not (q a)))", 6, 1);
    }

    /** A read that finds a fault leaves sheet, state and states; one that finds none drops the latter. */
    private static void stays() {
        RuleSheets x = Check.reading("(role a)(init b)(init c)(legal a m)(<= (next ?x) (true ?x))");
        x.start();
        x.explore();
        Check.write(x, ")");
        Check.due("read() of a spoilt text", 1, x::read);
        Check.due("its fault()", 59, x::fault);
        Check.due("fault() again", 59, x::fault);
        Check.due("the sheet stays", 5, () -> x.sheet(0));
        Check.due("its role stays", 'a', () -> x.sign(5, 0, 0));
        Check.due("its state stays", 'c', () -> x.sign(0, 1, 0));
        Check.due("its states stay", 2, () -> x.state(0, 0));
        x.end(0);
        Check.write(x, "(role ro) (<= (p ?x) (not (q ?x)))");
        Check.due("read() of an unsafe sheet", 5, x::read);
        Check.due("its fault()", 1, x::fault);
        Check.due("the role stays", 'a', () -> x.sign(5, 0, 0));
        Check.due("the moves stay", 'm', () -> x.sign(1, 0, 0));
        Check.due("play goes on", 2, () -> x.play(0));
        x.end(10);
        Check.due("read() of what is left", 0, x::read);
        Check.due("no fault()", -1, x::fault);
        Check.due("a new sheet", 1, () -> x.sheet(0));
        Check.due("a new role", 'o', () -> x.sign(5, 0, 1));
        Check.refused("no state", IllegalStateException.class, () -> x.moves(0));
        Check.refused("no state's term", IllegalStateException.class, () -> x.sign(0, 0, 0));
        Check.refused("no states", IllegalStateException.class, () -> x.defect(0));
        Check.due("the same text once more", 0, x::read);
        x.start();
        x.explore();
        Check.due("a read that is well", 0, x::read);
        Check.refused("drops the state", IllegalStateException.class, () -> x.terminal() ? 1 : 0);
        Check.refused("drops the states", IllegalStateException.class, () -> x.value(0));
        x.end(3);
        Check.due("a read that is not", 1, x::read);
        Check.due("its fault", 3, x::fault);
    }

    /** Nothing of a text behind its end is seen, and nothing of a sheet that was read before. */
    private static void left() {
        RuleSheets x = Check.with("(<= a)");
        x.end(2);
        Check.due("read() of '(<'", 1, x::read);
        Check.due("its place", 1, x::fault);
        x.end(1);
        Check.due("read() of '('", 1, x::read);
        Check.due("the text's end", 1, x::fault);
        x.end(0);
        Check.write(x, "(<= terminal p)(<= p (does a b))");
        Check.due("terminal by does", 4, x::read);
        x.end(0);
        Check.write(x, "terminal p (p_ a b c)");
        Check.due("terminal alone", 0, x::read);
        x.end(0);
        Check.write(x, "terminal p (p_ a)");
        Check.due("another number of terms", 0, x::read);
        Check.due("no fault is left", -1, x::fault);
    }

    private static void sheet() {
        RuleSheets x = Check.reading("(role a) (role b) (role a) (<= (role c)) p (role (d e)) (role f)");
        Check.due("sheet(0)", 7, () -> x.sheet(0));
        Check.due("sheet(1)", 4, () -> x.sheet(1));
        Check.same("role 1", "b", Check.text(x, 5, 1));
        Check.same("role 2", "c", Check.text(x, 5, 2));
        Check.same("role 3", "(d e)", Check.text(x, 5, 3));
        Check.refused("role 4", IndexOutOfBoundsException.class, () -> x.sign(5, 4, 0));
        Check.refused("sheet(-1)", IllegalArgumentException.class, () -> x.sheet(-1));
        Check.refused("sheet(2)", IllegalArgumentException.class, () -> x.sheet(2));
        RuleSheets y = Check.reading("p (q role)");
        Check.due("no roles", 0, () -> y.sheet(1));
        Check.due("sixty rules", 60, () -> Check.reading(Check.repeat("a ", 60)).sheet(0));
    }

    public static void main(String[] args) {
        tokens();
        grammar();
        words();
        depth();
        sixty();
        numbers();
        heads();
        dependence();
        safety();
        strata();
        recursion();
        firstGoes();
        stays();
        left();
        sheet();
        Check.finish();
    }
}
