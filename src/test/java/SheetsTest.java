/** Terms 1, SHEETS: a test for each of its sentences, with the last that is well and the first that isn't. */
public final class SheetsTest {
    private static final String LETTERS = "abcdefghijklmnopqrstuvwxyz0123456789_";
    private static final String SIXTEEN = "abcdefghijklm_09";
    private static final String SEVENTEEN = SIXTEEN + "z";

    private SheetsTest() {
    }

    private static String blanks(int count) {
        return Check.repeat(" ", count);
    }

    private static String open(int count) {
        return Check.repeat("(f ", count);
    }

    private static String close(int count) {
        return Check.repeat(")", count);
    }

    /** "A TEXT has at most 2000 signs": the last of them counts like all others, and there is no further one. */
    private static void longestText() {
        Check.well("(p" + blanks(1996) + "a)");
        Check.noSheet("(p" + blanks(1997) + "a|");
        Check.noSheet("a" + blanks(1998) + "|)");
        Check.noSheet("a" + blanks(1998) + "|?");
        Check.noSheet("a" + blanks(1998) + "|<");
        Check.noSheet(blanks(2000) + "|");
        Check.well(blanks(1999) + "a");
        Check.well("a;" + Check.repeat("(", 1998));
        Check.noSheet(";" + Check.repeat("a", 1999) + "|");
        Check.noSheet("(|" + Check.repeat("(", 1999));
        Check.noSheet("|" + Check.repeat(")", 2000));
        Check.noSheet("|" + Check.repeat("a", 2000));
        Check.noSheet("|?" + Check.repeat("a", 1999));
        RuleSheets x = Check.with("(p" + blanks(1996) + "a)");
        Check.refused("the 2001st sign", UnsupportedOperationException.class, () -> x.put('a'));
        Check.due("how many there are", 2000, () -> x.put(0));
        Check.due("read() of them", 0, x::read);
    }

    /** "signs, 32 .. 126 and line ends (10)": a comment may have them all. */
    private static void allSigns() {
        StringBuilder all = new StringBuilder("a;");
        for (char sign = 32; sign <= 126; sign++) {
            all.append(sign);
        }
        Check.rules(all + "\nb", 2);
    }

    /** "Blanks, line ends and COMMENTS (from ; to the line's end) part TOKENS" */
    private static void parting() {
        Check.rules("ab", 1);
        Check.rules("a b", 2);
        Check.rules("a\nb", 2);
        Check.rules("a;\nb", 2);
        Check.rules("a;b", 1);
        Check.rules("a;b\nc", 2);
        Check.rules("a;b\nc\nd", 3);
        Check.rules("a ;b;c\nd", 2);
        Check.rules("a;;\nd", 2);
        Check.rules(";a\nb", 1);
        Check.rules("\n \na", 1);
        Check.rules("a\n", 1);
        Check.rules("(p ; b)\na)", 1);
        Check.rules("(<=;\na;\n(not;\nb));", 1);
        Check.noSheet(";a|");
        Check.noSheet("(p a;)|");
        Check.noSheet("(p a;)\n|");
    }

    /** "NAMES, one to sixteen small letters, digits and _": each sign of a text, alone and in a name. */
    private static void letters() {
        for (char sign = 33; sign <= 126; sign++) {
            if (LETTERS.indexOf(sign) >= 0) {
                Check.rules("a " + sign, 2);
                Check.rules("a" + sign, 1);
                Check.rules(sign + "a", 1);
                Check.well("(<= b (p ?" + sign + " ?" + sign + "a))");
            } else if (sign != '(' && sign != ';') {
                Check.fault("a " + sign, 1, 2);
                Check.fault("a" + sign, 1, 1);
            }
        }
        Check.noSheet("a (|");
        Check.noSheet("a(|");
    }

    /** "one to sixteen": sixteen are well in every place, seventeen have their place where they begin. */
    private static void lengths() {
        Check.well("a");
        Check.well(SIXTEEN);
        Check.noSheet("|" + SEVENTEEN);
        Check.well("(" + SIXTEEN + " a)");
        Check.noSheet("(|" + SEVENTEEN + " a)");
        Check.well("(p " + SIXTEEN + ")");
        Check.noSheet("(p |" + SEVENTEEN + ")");
        Check.well("(p (" + SIXTEEN + " a))");
        Check.noSheet("(p (|" + SEVENTEEN + " a))");
        Check.well("(<= " + SIXTEEN + " (not (q " + SIXTEEN + ")) (distinct b " + SIXTEEN + "))");
        Check.noSheet("(<= a |" + SEVENTEEN + ")");
        Check.noSheet("(<= a (not |" + SEVENTEEN + "))");
        Check.noSheet("(<= a (distinct b |" + SEVENTEEN + "))");
        Check.noSheet("(|not" + SIXTEEN + " a)");
        Check.noSheet("a |" + SEVENTEEN);
    }

    /** "(as many as there are, one behind the other)": no name is cut so that it has sixteen. */
    private static void wholeNames() {
        Check.noSheet("(p |" + SIXTEEN + SIXTEEN + ")");
        Check.noSheet("(p |" + SEVENTEEN + "?x)");
        Check.fault("(p " + SIXTEEN + "?x)", 5, 0);
        Check.fault("(p " + SIXTEEN + "(f a)) (p a b)", 0, -1);
        Check.fault("(p " + SIXTEEN + " z) (p a)", 2, 1);
        Check.rules("nota", 1);
        Check.rules("not_ distinct0 0distinct", 3);
    }

    /** "VARIABLES, ? and a name right behind it", of one to sixteen, too; its place is that of its ? . */
    private static void variables() {
        Check.well("(<= a (p ?b))");
        Check.well("(<= a (p ?" + SIXTEEN + "))");
        Check.noSheet("(<= a (p |?" + SEVENTEEN + "))");
        Check.noSheet("(<= a (p |? b))");
        Check.noSheet("(<= a (p |?\nb))");
        Check.noSheet("(<= a (p |?;\nb))");
        Check.noSheet("(<= a (p |??b))");
        Check.noSheet("(<= a (p |?(b)))");
        Check.noSheet("(<= a (p |?))");
        Check.noSheet("(<= a (p |?B))");
        Check.noSheet("(<= a (p b|?");
        Check.noSheet("|?a");
    }

    /** "and <= ." with nothing in between; "a < without = begins no token", nor does an = alone. */
    private static void arrows() {
        Check.well("(<= a)");
        Check.well("( <= a)");
        Check.well("(<=a)");
        Check.noSheet("(|< = a)");
        Check.noSheet("(|<\n= a)");
        Check.noSheet("(|<< a)");
        Check.noSheet("(|<");
        Check.noSheet("(|= a)");
        Check.noSheet("(|=< a)");
        Check.noSheet("(<=|= a)");
        Check.noSheet("(<= a |< b)");
    }

    /** "(Tokens need not be parted: a?x are two.)" */
    private static void unparted() {
        Check.well("(<= (q ?x) (p a?x)) (p a b)");
        Check.fault("(<= (q ?x) (p a?x)) (p a)", 2, 1);
        Check.well("(<= (q ?x ?y) (p ?x?y))");
        Check.well("(p a(f b)c)(p a b c)");
        Check.well("(<=a b(not c)d)");
        Check.rules("a(p b)c(<=d)e", 5);
        Check.rules("(<=(p?x)(q?x))", 1);
    }

    /** "A TERM is a name, a variable, or ( name, one to four terms )" */
    private static void terms() {
        for (String kind : new String[] {"a", "?a", "(f a)"}) {
            Check.well("(<= b (p " + kind + "))");
            Check.well("(<= b (p (f " + kind + ")))");
            Check.well("(<= b (p a b c " + kind + "))");
            Check.noSheet("(<= b (p a b c d |" + kind + "))");
            Check.well("(<= b (p (f a b c " + kind + ")))");
            Check.noSheet("(<= b (p (f a b c d |" + kind + ")))");
        }
        Check.noSheet("(p (f|))");
        Check.noSheet("(p (|))");
        Check.noSheet("(p (|(f a)))");
        Check.noSheet("(p (|?f a))");
        Check.noSheet("(p |<= a)");
        Check.noSheet("(p (|<= a))");
        Check.noSheet("(p (f a b c d |");
        Check.well("(p (f a b c d) (f a b c) (f a b) (f a))");
    }

    /** "An ATOM is a name, or ( name, one to four terms )": as head of both kinds, condition, and in not. */
    private static void atoms() {
        String[][] places = {{"", ""}, {"(<= ", ")"}, {"(<= z ", ")"}, {"(<= z (not ", "))"}};
        for (String[] place : places) {
            Check.well(place[0] + "p" + place[1]);
            Check.well(place[0] + "(p a)" + place[1]);
            Check.well(place[0] + "(p a b c d)" + place[1]);
            Check.noSheet(place[0] + "(p|)" + place[1]);
            Check.noSheet(place[0] + "(p a b c d |e)" + place[1]);
            Check.noSheet(place[0] + "|?p" + place[1]);
            Check.noSheet(place[0] + "(|?p a)" + place[1]);
            Check.noSheet(place[0] + "(|(p a) a)" + place[1]);
            Check.noSheet(place[0] + "(|)" + place[1]);
            Check.noSheet(place[0] + "|<= a" + place[1]);
        }
    }

    /** "A CONDITION is an atom, or ( not, an atom ), or ( distinct, two terms )" */
    private static void conditions() {
        Check.well("(<= a b)");
        Check.well("(<= a (not b))");
        Check.noSheet("(<= a (not|))");
        Check.noSheet("(<= a (not b |c))");
        Check.noSheet("(<= a (not b |(c d)))");
        Check.noSheet("(<= a (not |?b))");
        Check.noSheet("(<= a (not b|");
        Check.well("(<= a (distinct b c))");
        Check.well("(<= a (distinct (f b) (f c)))");
        Check.well("(<= a (p ?b) (distinct ?b ?b))");
        Check.noSheet("(<= a (distinct|))");
        Check.noSheet("(<= a (distinct b|))");
        Check.noSheet("(<= a (distinct b c |d))");
        Check.noSheet("(<= a (distinct b c |?d))");
        Check.noSheet("(<= a (distinct b c |(f d)))");
        Check.noSheet("(<= a (distinct b c|");
        Check.noSheet("(<= a (|<= b))");
        Check.noSheet("(<= a |<= b)");
    }

    /** "A RULE is an atom, its HEAD, alone, or ( <=, an atom, its head, none to eight conditions )" */
    private static void ruleParts() {
        Check.rules("a (p b)", 2);
        Check.rules("(<= a) (<= (p b))", 2);
        Check.noSheet("(<=|)");
        Check.noSheet("(<=|");
        Check.well("(<= a b)");
        for (String kind : new String[] {"j", "(j k)", "(not j)", "(distinct j k)"}) {
            Check.well("(<= a " + Check.repeat(kind, 1) + ")");
            Check.well("(<= a b c d e f g h " + kind + ")");
            Check.noSheet("(<= a b c d e f g h i |" + kind + ")");
            Check.noSheet("(<= a " + Check.repeat(kind + " ", 8) + "|" + kind + ")");
            Check.well("(<= a " + Check.repeat(kind + " ", 8) + ")");
        }
        Check.noSheet("(<= a b c d e f g h i |not)");
        Check.noSheet("(<= a b c d e f g h i |");
        Check.noSheet("a |)");
        Check.noSheet("(p a) |)");
        Check.noSheet("(<= a b) |)");
    }

    /** "The names not and distinct stand nowhere else (but variables ?not and ?distinct may be)" */
    private static void words() {
        for (String word : new String[] {"not", "distinct"}) {
            Check.noSheet("|" + word);
            Check.noSheet("(|" + word + " a b)");
            Check.noSheet("(|" + word + " a)");
            Check.noSheet("(p |" + word + ")");
            Check.noSheet("(p a |" + word + ")");
            Check.noSheet("(p (|" + word + " a))");
            Check.noSheet("(p (f a |" + word + "))");
            Check.noSheet("(<= |" + word + ")");
            Check.noSheet("(<= (|" + word + " a b))");
            Check.noSheet("(<= a |" + word + ")");
            Check.noSheet("(<= a b |" + word + ")");
            Check.noSheet("(<= a (p |" + word + "))");
            Check.noSheet("(<= a (p (|" + word + " b c)))");
            Check.noSheet("(<= a (not |" + word + "))");
            Check.noSheet("(<= a (not (|" + word + " b c)))");
            Check.noSheet("(<= a (not (p |" + word + ")))");
            Check.noSheet("(<= a (distinct |" + word + " b))");
            Check.noSheet("(<= a (distinct b |" + word + "))");
            Check.noSheet("(<= a (distinct b (|" + word + " c d)))");
            Check.well("(<= a (p ?" + word + "))");
            Check.well("(<= (q ?" + word + ") (p ?" + word + ") (not (r ?" + word + ")) (distinct ?" + word + " b))");
            Check.well(word + "_ (p " + word + "0 (x" + word + " a))");
        }
    }

    /** "A sheet is one to sixty rules, numbered from 0, up to the text's end" */
    private static void sixty() {
        Check.noSheet("|");
        Check.noSheet("  \n;\n |");
        Check.rules("a", 1);
        for (String rule : new String[] {"a ", "(p b) ", "(<= a) ", "(<= a b) "}) {
            Check.rules(Check.repeat(rule, 59), 59);
            Check.rules(Check.repeat(rule, 60), 60);
            Check.rules(Check.repeat(rule, 60) + "; a", 60);
            Check.noSheet(Check.repeat(rule, 60) + "|" + rule);
        }
        for (String more : new String[] {")", "?", "?x", "not", "<=", "A", SEVENTEEN}) {
            Check.noSheet(Check.repeat("a ", 60) + "|" + more);
            Check.noSheet("a |" + more);
        }
        Check.fault("(p ?x) " + Check.repeat("a ", 59), 5, 0);
        Check.fault("a (p ?x) " + Check.repeat("a ", 58), 5, 1);
        Check.fault(Check.repeat("a ", 59) + "(p ?x)", 5, 59);
    }

    /** "a rule has at most eight unlike variables": unlike ones, of one rule, in all its parts. */
    private static void eightVariables() {
        String eight = "(p ?a ?b ?c ?d) (q ?e ?f ?g ?h)";
        Check.well("(<= z " + eight + ")");
        Check.noSheet("(<= z " + eight + " (r |?i))");
        Check.noSheet("(<= z " + eight + " (r ?a ?h |?i ?j))");
        Check.noSheet("(<= z " + eight + " (not (r |?i)))");
        Check.noSheet("(<= z " + eight + " (distinct |?i ?a))");
        Check.noSheet("(<= z " + eight + " (distinct ?a |?i))");
        Check.noSheet("(<= z " + eight + " (r (f (g |?i))))");
        Check.noSheet("(<= z " + eight + " |?i)");
        Check.well("(<= z " + eight + eight + " (r ?h ?a) (not (r ?h ?b)) (distinct ?c ?d))");
        Check.well("(<= (z ?a ?b ?c ?d) " + eight + ")");
        Check.noSheet("(<= (z ?a ?b ?c ?i) (p ?a ?b ?c ?d) (q ?e ?f ?g |?h))");
        Check.well("(<= y " + eight + ") (<= z (p ?i ?j ?k ?l) (q ?m ?n ?o ?p))");
        Check.noSheet("(<= y " + eight + ") (<= z (p ?i ?j ?k ?l) (q ?m ?n ?o ?p) (r |?a))");
        Check.noSheet("(p (f ?a ?b ?c ?d) (f ?e ?f ?g ?h) |?i)");
        Check.fault("(p (f ?a ?b ?c ?d) (f ?e ?f ?g ?h) ?a)", 5, 0);
    }

    /** "parentheses are at most ten in one another (those of a rule, a condition, not, distinct counted)" */
    private static void depth() {
        Check.well(open(10) + "a" + close(10));
        Check.noSheet(open(10) + "|(f a" + close(11));
        Check.well("(<= " + open(9) + "a" + close(10));
        Check.noSheet("(<= " + open(9) + "|(f a" + close(11));
        Check.well("(<= a " + open(9) + "a" + close(10));
        Check.noSheet("(<= a " + open(9) + "|(f a" + close(11));
        Check.well("(<= a (not " + open(8) + "a" + close(10));
        Check.noSheet("(<= a (not " + open(8) + "|(f a" + close(11));
        Check.well("(<= a (distinct b " + open(8) + "a" + close(10));
        Check.noSheet("(<= a (distinct b " + open(8) + "|(f a" + close(11));
        Check.well("(<= a (distinct " + open(8) + "a" + close(8) + " b))");
        Check.noSheet("(<= a (distinct " + open(8) + "|(f a" + close(9) + " b))");
        Check.well("(p " + open(9) + "a" + close(9) + open(9) + "a" + close(9) + ")");
        Check.noSheet(open(10) + "a |(");
        Check.well(open(9) + "(f a b c d)" + close(9) + open(10) + "a" + close(10));
    }

    /** All that a text of 2000 signs has room for: names, unlike names, long names, conditions and parentheses. */
    private static void full() {
        String four = "(f a b c d)";
        String many = "(g" + Check.repeat(four, 4) + ")";
        String rule = "(p" + Check.repeat(many, 4) + ")";
        Check.rules(Check.repeat(rule, 10) + "(q" + four + four + four + "a)" + "(r" + four + four + four + four + ")", 12);
        Check.fault(Check.repeat(rule, 10) + "(q" + four + four + four + "?x)", 5, 10);
        Check.rules(Check.repeat("(<= a b c d e f g h i)", 60), 60);
        Check.rules(Check.repeat("(<= a b(not c)(not d)(distinct e f))", 55), 55);
        Check.fault(Check.repeat("(<= a b c d e f g h i)", 59) + "(<= a b c d e f g h (not a))", 6, 59);
        StringBuilder unlike = new StringBuilder();
        for (int k = 0; k < 31 * 16; k++) {
            unlike.append(k % 16 == 0 ? "(p" : "").append(k % 4 == 0 ? "(g " : " ").append(LETTERS.charAt(k / 37)).append(LETTERS.charAt(k % 37));
            unlike.append(k % 4 == 3 ? ")" : "").append(k % 16 == 15 ? ")" : "");
        }
        Check.rules(unlike.toString(), 31);
        StringBuilder longest = new StringBuilder();
        for (int k = 0; k < 112; k++) {
            longest.append(k % 4 == 0 ? "(p " : " ").append(String.format("%016d", k)).append(k % 4 == 3 ? ")" : "");
        }
        Check.rules(longest.toString(), 28);
    }

    public static void main(String[] args) {
        longestText();
        allSigns();
        parting();
        letters();
        lengths();
        wholeNames();
        variables();
        arrows();
        unparted();
        terms();
        atoms();
        conditions();
        ruleParts();
        words();
        sixty();
        eightVariables();
        depth();
        full();
        Check.finish();
    }
}
