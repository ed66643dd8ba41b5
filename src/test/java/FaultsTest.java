/** Terms 2, FAULTS: a test for each of its sentences, with the nearest sheets that have and don't have the fault. */
public final class FaultsTest {
    private FaultsTest() {
    }

    /** "FAULTS. The first of these that a sheet has": the kind counts ahead of the rule's number. */
    private static void firstKind() {
        Check.fault("(p ?x) (<= p (not p)) (true a) ?", 1, 31);
        Check.fault("(p ?x) (<= (q a) (not (q a))) (true a) (p a b)", 2, 3);
        Check.fault("(p ?x) (<= (q a) (not (q a))) (true a)", 3, 2);
        Check.fault("(p ?x) (<= (q a) (not (q a))) (<= terminal (does a b))", 4, 3);
        Check.fault("(<= (q a) (not (q a))) (p ?x) (<= (s (f ?x)) (s ?x))", 5, 1);
        Check.fault("(<= (s (f ?x)) (s ?x)) (<= (q a) (not (q a)))", 6, 1);
        Check.fault("(<= (s (f ?x)) (s ?x))", 7, 0);
        Check.well("(<= (s ?x) (s ?x))");
        Check.fault("(role ?x) (p ?x)", 3, 0);
        Check.fault("(<= (init ?x) (not (true ?x)))", 4, 0);
        Check.fault("(<= (q ?y) (not (q ?y)))", 5, 0);
        Check.fault("(<= (q (f ?y)) (q ?y) (not (q ?y)))", 6, 0);
    }

    /** "1 it isn't a sheet: the place of the first token .. that can't come there" */
    private static void firstPlace() {
        Check.noSheet("(p |) ) ? not");
        Check.noSheet("a |? ( )");
        Check.noSheet("a |) ?");
        Check.noSheet("(p a |<= ?)");
        Check.noSheet("(<= (|not a) (not not))");
        Check.noSheet("(p a b c d |e ?)");
        Check.noSheet("(<= |?a ?)");
        Check.noSheet("|A B");
        Check.noSheet("(|A");
    }

    /** "(of a not or distinct that can't, that name)", not the ( ahead of it. */
    private static void placeOfWords() {
        Check.noSheet("(|not a)");
        Check.noSheet("(  |distinct a b)");
        Check.noSheet("a (;\n|not b)");
        Check.noSheet("(<= (|not a) b)");
        Check.noSheet("(<= a (not (|not b)))");
        Check.noSheet("(<= a (not (|distinct b c)))");
        Check.noSheet("(<= a (p (|not b)))");
        Check.noSheet("(<= a b c d e f g h i |(not j))");
    }

    /** "the text's end is a token, too, whose place is the number of all signs" */
    private static void textEnd() {
        Check.noSheet("|");
        Check.noSheet(" |");
        Check.noSheet("\n\n|");
        Check.noSheet(";|");
        Check.noSheet("; a\n|");
        Check.noSheet("(|");
        Check.noSheet("(p|");
        Check.noSheet("(p a|");
        Check.noSheet("(p a  |");
        Check.noSheet("(p a ;)\n |");
        Check.noSheet("(p (f a)|");
        Check.noSheet("(<=|");
        Check.noSheet("(<= a|");
        Check.noSheet("(<= a (|");
        Check.noSheet("(<= a (not|");
        Check.noSheet("(<= a (not b|");
        Check.noSheet("(<= a (not b)|");
        Check.noSheet("(<= a (distinct|");
        Check.noSheet("(<= a (distinct b|");
        Check.noSheet("(<= a (distinct b c|");
        Check.noSheet("a b (p a|");
    }

    private static String atom(String name, int terms) {
        return terms == 0 ? name : "(" + name + Check.repeat(" a", terms) + ")";
    }

    private static void isKind2(boolean want, String text) {
        RuleSheets x = Check.with(text);
        boolean is = x.read() == 2;
        Check.holds("fault 2 of " + text + " is " + is, is == want);
        Check.holds("rule 1 of " + text, !want || x.fault() == 1);
    }

    /** "2 .. that isn't of its own: role, init, true, next 1; does, legal, goal 2; terminal none" */
    private static void numbersOfWords() {
        String[] words = {"role", "init", "true", "next", "does", "legal", "goal", "terminal"};
        int[] own = {1, 1, 1, 1, 2, 2, 2, 0};
        for (int w = 0; w < words.length; w++) {
            for (int terms = 0; terms <= 4; terms++) {
                String atom = atom(words[w], terms);
                boolean wrong = terms != own[w];
                isKind2(wrong, "z " + atom + " z");
                isKind2(wrong, "z (<= " + atom + ") z");
                isKind2(wrong, "z (<= y " + atom + ") z");
                isKind2(wrong, "z (<= y x (not " + atom + ")) z");
            }
            Check.well("(<= z (distinct (" + words[w] + " a b c) " + words[w] + ")) (p (" + words[w] + " a b c d) " + words[w] + ")");
        }
    }

    /** "2 numbers of terms: the first rule .. whose relation had another number of terms before" */
    private static void numbersOfOthers() {
        for (int first = 0; first <= 4; first++) {
            for (int second = 0; second <= 4; second++) {
                String a = atom("p", first);
                String b = atom("p", second);
                isKind2(first != second, a + " " + b);
                isKind2(first != second, "z (<= " + a + " (not (q a)) " + b + ")");
                isKind2(first != second, "(<= z " + a + ") (<= y " + b + ")");
                isKind2(first != second, "(<= z (not " + a + ")) (<= y (not " + b + "))");
                isKind2(first != second, "z (<= y " + a + " (distinct b c) " + b + ")");
            }
        }
        Check.fault("(p a) (q a) (q a b) (p a b)", 2, 2);
        Check.fault("(p a) (p a b) (p a)", 2, 1);
        Check.fault("(<= (p a) (p a b))", 2, 0);
        Check.well("(p p) (p (p a b)) (<= q (distinct (p a b c) p)) (<= r (p (q a)))");
    }

    /** "3 words: the first rule whose head is of true or does" */
    private static void headsOfWords() {
        Check.fault("a (true b)", 3, 1);
        Check.fault("a a (does b c)", 3, 2);
        Check.fault("(<= (true a) b)", 3, 0);
        Check.fault("(<= (does a b))", 3, 0);
        Check.fault("(true a) (does a b)", 3, 0);
        Check.well("(<= a (true b) (does a b) (not (true c)) (not (does c d)))");
        Check.well("(p true does)");
        Check.well("(init a) (next a) (legal a b) (goal a b) terminal (role a)");
    }

    /** "or of role, with conditions or a variable (a rule with <= and no conditions is well)" */
    private static void headsOfRole() {
        Check.well("(role a)");
        Check.well("(<= (role a))");
        Check.well("(<= (role (f a (g b))))");
        Check.fault("a (<= (role a) b)", 3, 1);
        Check.fault("(<= (role a) (not b))", 3, 0);
        Check.fault("(<= (role a) (distinct b c))", 3, 0);
        Check.fault("(role ?x)", 3, 0);
        Check.fault("(role (f a (g ?x)))", 3, 0);
        Check.fault("(<= (role ?x))", 3, 0);
        Check.fault("(<= (role ?x) (p ?x))", 3, 0);
        Check.well("(<= a (role ?x)) (<= (p ?x) (role ?x)) (<= b (not (role c)))");
    }

    /** "or that has a condition of init or next" */
    private static void conditionsOfWords() {
        for (String word : new String[] {"init", "next"}) {
            Check.fault("a a (<= a (" + word + " b))", 3, 2);
            Check.fault("(<= a b c (" + word + " b))", 3, 0);
            Check.fault("(<= a (not (" + word + " b)))", 3, 0);
            Check.fault("(<= a b (not (" + word + " b)) c)", 3, 0);
            Check.fault("(<= (" + word + " a) (" + word + " b))", 3, 0);
            Check.well("(<= a (distinct " + word + " b) (distinct b (" + word + " c)) (p " + word + ") (q (" + word + " b)))");
            Check.well("(<= (" + word + " a)) (<= (" + word + " b) c)");
        }
        Check.fault("(<= a (next b)) (true a)", 3, 0);
        Check.fault("(<= a b) (<= a (init b)) (true a)", 3, 1);
    }

    /** "4 .. init depends on true or does (0)" */
    private static void dependenceOfInit() {
        Check.fault("(<= (init a) (true b))", 4, 0);
        Check.fault("(<= (init a) (not (true b)))", 4, 0);
        Check.fault("(<= (init a) (does b c))", 4, 0);
        Check.fault("(<= (init a) (not (does b c)))", 4, 0);
        Check.fault("(<= (init a) p) (<= p (legal b c)) (<= (legal b c) (true d))", 4, 0);
        Check.well("(<= (init a) p (role b) (not q) (legal a b)) (<= p q) q (legal a b)");
        Check.well("(<= (init a) (distinct true does))");
    }

    /** "legal (1), goal (2), terminal (3) on does": on true each of them may depend. */
    private static void dependenceOfOthers() {
        String[] heads = {"(legal a b)", "(goal a b)", "terminal"};
        for (int k = 0; k < 3; k++) {
            Check.fault("(<= " + heads[k] + " (does a b))", 4, k + 1);
            Check.fault("(<= " + heads[k] + " (not (does a b)))", 4, k + 1);
            Check.fault("(<= " + heads[k] + " p) (<= p (not q)) (<= q r) (<= r (does a b))", 4, k + 1);
            Check.fault(heads[k] + " (<= " + heads[k] + " (true c)) (<= " + heads[k] + " c (does a b))", 4, k + 1);
            Check.well("(<= " + heads[k] + " (true b) (not (true c)))");
            Check.well("(<= " + heads[k] + " (distinct does b)) (<= p (does a b))");
            Check.well(heads[k] + " (<= p " + heads[k] + " (does a b))");
        }
        Check.well("(<= (next a) (does a b)) (<= p (does a b)) (<= (next b) p)");
    }

    /** "a relation DEPENDS on those of the conditions of all rules of which it is the head's, and on all that these depend on" */
    private static void dependence() {
        Check.fault("(<= terminal p) (<= p q) (<= q p) (<= q r) (<= r (does a b))", 4, 3);
        Check.fault("(<= r (does a b)) (<= q r) (<= p q) (<= terminal p)", 4, 3);
        Check.fault("(<= p s) (<= p t) (<= t (does a b)) (<= terminal p)", 4, 3);
        Check.well("(<= terminal p) (<= q p (does a b)) p");
        StringBuilder chain = new StringBuilder("(<= terminal p0)");
        for (int k = 0; k < 58; k++) {
            chain.append("(<= p").append(k).append(" p").append(k + 1).append(')');
        }
        Check.fault(chain + "(<= p58 (does a b))", 4, 3);
        Check.well(chain + "(<= p58 (true a))");
        // As many relations as rules, the last of which all others depend on, but on neither true nor does.
        StringBuilder all = new StringBuilder("(<= (init a) w)(<= (legal a a) w)(<= (goal a a) w)(<= terminal w)(<= (next a) w (true a) (does a a))");
        for (int k = 0; k < 54; k++) {
            all.append("(<= p").append(k).append(" w)");
        }
        Check.well(all + "w");
        Check.fault(all.toString().replace("(<= p53 w)", "") + "w(<= w (does a a))", 4, 0);
        Check.fault("w" + all.toString().replace("(<= p53 w)", "") + "(<= w (not (true a)))", 4, 0);
    }

    /** "the first of these four is told" */
    private static void firstOfFour() {
        String all = "(<= terminal p) (<= (goal a b) p) (<= (legal a b) p) (<= (init a) p) (<= p (does a b))";
        Check.fault(all, 4, 0);
        Check.fault(all.replace("(<= (init a) p)", "(init a)"), 4, 1);
        Check.fault(all.replace("(<= (init a) p) ", "").replace("(<= (legal a b) p)", ""), 4, 2);
        Check.fault("(<= terminal p) (<= p (does a b))", 4, 3);
        Check.fault("(<= terminal (legal a b)) (<= (legal a b) (does a b))", 4, 1);
        Check.fault("(<= (legal a b) terminal) (<= terminal (does a b))", 4, 1);
    }

    /** "5 safety: the first rule with a variable in its head, in a negative condition or in distinct, that is in no positive condition" */
    private static void safety() {
        Check.fault("a (p ?x)", 5, 1);
        Check.fault("(<= (p ?x))", 5, 0);
        Check.fault("(<= (p (f (g ?x))) (q ?y))", 5, 0);
        Check.well("(<= (p (f (g ?x))) (q ?x))");
        Check.well("(<= (p ?x) (q (f (g ?x))))");
        Check.fault("(<= (p ?x) (not (q ?x)))", 5, 0);
        Check.fault("(<= (p ?x) (distinct ?x a))", 5, 0);
        Check.fault("(<= p (not (q ?x)))", 5, 0);
        Check.fault("(<= p (q ?x) (not (r ?y)))", 5, 0);
        Check.fault("(<= p (q ?x) (not (r a (f ?y))))", 5, 0);
        Check.well("(<= p (q ?x) (not (r a (f ?x))))");
        Check.fault("(<= p (q ?x) (distinct ?x ?y))", 5, 0);
        Check.fault("(<= p (q ?x) (distinct ?y ?x))", 5, 0);
        Check.fault("(<= p (q ?x) (distinct ?x (f ?y)))", 5, 0);
        Check.well("(<= p (q ?x) (distinct ?x (f ?x)))");
        Check.well("(<= (p ?x) (not (r ?x)) (distinct ?x a) (q ?x))");
        Check.well("(<= p (q ?x ?y))");
        Check.fault("(<= p (q ?x)) (<= r (not (q ?x)))", 5, 1);
        Check.fault("(<= (q ?a ?b ?c ?d) (q ?e ?f ?g ?h) (q ?a ?b ?c ?e))", 5, 0);
        Check.fault("(<= (p ?h) (q ?a ?b ?c ?d) (q ?e ?f ?g g) (not (r ?h)))", 5, 0);
    }

    /** "6 strata: the first rule with a negative condition whose relation is that of the head, or depends on that" */
    private static void strata() {
        Check.fault("(<= p (not p))", 6, 0);
        Check.fault("(<= (p a) (not (p b)))", 6, 0);
        Check.fault("p (<= q (not r)) (<= r q)", 6, 1);
        Check.fault("(<= p q) (<= q (not r)) (<= r s) (<= s p)", 6, 1);
        Check.fault("(<= p a (not b) (not r)) (<= r (not p))", 6, 0);
        Check.fault("(<= (legal a b) (not terminal)) (<= terminal (not (legal a b)))", 6, 0);
        Check.fault("(<= r p) (<= p r) (<= r (not p))", 6, 2);
        Check.well("(<= p (not q)) (<= q (not r)) (<= r s) (<= s r)");
        Check.well("(<= p q) (<= q p) (<= r (not p))");
        Check.well("(<= p p)");
        Check.well("(<= p (not q)) q");
        Check.well("(<= p (not never))");
        Check.well("(<= (next a) (not (true a)))");
    }

    /** "7 recursion: the first rule with a positive condition whose relation is that of the head, or depends on that" */
    private static void recursion() {
        Check.fault("(<= (p (f ?x)) (p ?x))", 7, 0);
        Check.fault("a (<= (p ?x) (p (f ?x)))", 7, 1);
        Check.fault("(<= (p (f ?x)) (q ?x)) (<= (q ?x) (p ?x))", 7, 0);
        Check.fault("(<= (q ?x) (p ?x)) (<= (p (f ?x)) (q ?x))", 7, 1);
        Check.fault("(<= (p (f ?x)) (q ?x)) (<= (q ?x) (r ?x)) (<= (r ?x) (p ?x))", 7, 0);
        Check.well("(<= (p (f ?x)) (q ?x)) (<= (q ?x) (r ?x))");
        Check.well("(<= (p ?x) (q (f ?x)))");
        Check.well("(<= p q) (<= q p)");
        Check.fault("(<= (p ?x) (p ?x) (p (f ?x)))", 7, 0);
        Check.fault("(<= (p ?x) (q ?x ?y) (not (r ?y))) (<= (q ?x ?y) (p ?x) (p ?y) (p ?z))", 7, 0);
        Check.fault("(<= (q ?x) (p ?x ?y)) (<= (p ?x ?y) (p ?x ?y) (q ?x)) (<= (q a) (q ?x))", 7, 0);
    }

    /** "and that has a term with a variable in it": terms without one are well. */
    private static void termsWithoutVariables() {
        Check.well("(<= (p ?x) (q ?x) (p a))");
        Check.well("(<= (p ?x) (p ?x) (p a) (p (f b)))");
        Check.well("(<= (p ?x ?y) (p b ?x) (q ?x ?y))");
        Check.fault("(<= (p ?x ?y) (p (f b) (f ?x)) (q ?x ?y))", 7, 0);
        Check.well("(<= (p ?x) (q ?x) (p (f (g b))))");
        Check.well("(<= (p ?x b) (q ?x) (p a (f c)))");
        Check.fault("(<= (p ?x b) (q ?x) (p a (f ?x)))", 7, 0);
        Check.fault("(<= (p ?x b) (q ?x) (p a (f c (g ?x))))", 7, 0);
        Check.fault("(<= (p ?x ?y ?z ?w) (q ?x ?y) (q ?z ?w) (p a b c (f ?w)))", 7, 0);
    }

    /** "such that the whole term is neither one of the head's terms" */
    private static void termsOfHead() {
        Check.well("(<= (p ?x) (p ?x))");
        Check.well("(<= (p (f ?x)) (p (f ?x)))");
        Check.fault("(<= (p (f ?x)) (p (g ?x)))", 7, 0);
        Check.fault("(<= (p (f ?x)) (p (f (f ?x))))", 7, 0);
        Check.fault("(<= (p (f ?x) ?y) (p ?x ?y))", 7, 0);
        Check.well("(<= (p ?x ?y) (p ?y ?x))");
        Check.fault("(<= (p (f ?x ?y)) (p (f ?y ?x)))", 7, 0);
        Check.fault("(<= (p ?x a) (p ?x ?y))", 7, 0);
    }

    /** "nor one of those of a positive condition of the rule whose relation neither is that of the head nor depends on that" */
    private static void termsOfOthers() {
        Check.well("(<= (p (f ?x)) (p ?x) (q ?x))");
        Check.well("(<= (p (f ?x)) (q ?x) (p ?x))");
        Check.well("(<= (p (f ?x)) (p ?x) (q a b ?x))");
        Check.well("(<= (p (g ?x)) (p (f ?x)) (q (f ?x)))");
        Check.fault("(<= (p (f ?x)) (p ?x) (q (g ?x)))", 7, 0);
        Check.fault("(<= (p (f ?x)) (p ?x) (not (q ?x)))", 7, 0);
        Check.fault("(<= (p (f ?x)) (p ?x) (distinct ?x a))", 7, 0);
        Check.fault("(<= (p (f ?x)) (p ?x) (q ?x)) (<= (q ?x) (p ?x))", 7, 0);
        Check.fault("(<= (p (f ?x)) (p ?x) (q ?x)) (<= (q ?x) (r ?x)) (<= (r ?x) (p ?x))", 7, 0);
        Check.well("(<= (p (f ?x)) (p ?x) (q ?x)) (<= (q ?x) (r ?x)) (<= (s ?x) (p ?x))");
        Check.fault("(<= (p ?x ?z) (p ?x ?y) (p ?y ?z))", 7, 0);
        Check.well("(<= (p ?x ?z) (p ?x ?y) (e ?y ?z))");
        Check.well("(<= (p ?x ?z) (e ?x ?y) (p ?y ?z))");
        Check.well("(<= (p ?x) (q ?x ?y) (r ?y)) (<= (q ?x ?x) (p ?x))");
        Check.well("(<= (p (f ?x)) (p ?x) (true ?x))");
        Check.well("(<= (p (f ?x)) (p ?x) (does ?x a))");
        Check.fault("(<= (p ?x) (p ?y) (q ?x)) (<= (q ?y) (r ?y))", 7, 0);
    }

    public static void main(String[] args) {
        firstKind();
        firstPlace();
        placeOfWords();
        textEnd();
        numbersOfWords();
        numbersOfOthers();
        headsOfWords();
        headsOfRole();
        conditionsOfWords();
        dependenceOfInit();
        dependenceOfOthers();
        dependence();
        firstOfFour();
        safety();
        strata();
        recursion();
        termsWithoutVariables();
        termsOfHead();
        termsOfOthers();
        Check.finish();
    }
}
