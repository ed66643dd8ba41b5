/** Promises 4 (read), 5 (fault) and 6 (sheet); what is a sheet, and its faults: SheetsTest and FaultsTest. */
public final class ReadTest {
    private static final String GAME = "(role a)(role b)(init s)(init t)(legal a m)(legal a n)(legal b m)"
        + "(<= (next u) (does a m))(<= (next v) (does a n))(<= terminal (not (true s)))"
        + "(<= (goal a 30) (true u))(<= (goal b 70) (true u))(<= (goal a 60) (true v))(<= (goal b 40) (true v))";
    /** A text for each fault, and where it is. */
    private static final String[] FAULTY = {"(role zz) )", "(role zz) (p a) p", "(role zz) (true a)", "(role zz) (<= terminal (does a b))",
        "(role zz) (p ?x)", "(role zz) (<= p (not p))", "(role zz) (<= (p (f ?x)) (p ?x))"};
    private static final int[] WHERE = {10, 2, 1, 3, 1, 1, 1};

    private ReadTest() {
    }

    private static void writeAnew(RuleSheets x, String text) {
        x.end(0);
        Check.write(x, text);
    }

    /** "Reads the text: 0, and it is the sheet, without a state, its states not known" */
    private static void newSheet() {
        RuleSheets x = Check.started(GAME);
        x.explore();
        Check.due("the states are known", 0, () -> x.defect(0));
        Check.due("read() of the same text", 0, x::read);
        noStates(x);
        Check.due("start() of it", 2, x::start);
        Check.due("explore() of it", 3, x::explore);
        writeAnew(x, "(role ro)");
        Check.due("nothing is read yet", 'a', () -> x.sign(5, 0, 0));
        Check.due("read() of another text", 0, x::read);
        noStates(x);
        Check.due("its rules", 1, () -> x.sheet(0));
        Check.due("its roles", 1, () -> x.sheet(1));
        Check.due("its role", 'o', () -> x.sign(5, 0, 1));
        Check.due("start() of it", 0, x::start);
        Check.due("explore() of it", 1, x::explore);
    }

    private static void noStates(RuleSheets x) {
        Check.refused("no state's moves", IllegalStateException.class, () -> x.moves(0));
        Check.refused("no state's end", IllegalStateException.class, () -> x.terminal() ? 1 : 0);
        Check.refused("no state's goal", IllegalStateException.class, () -> x.goal(0));
        Check.refused("no state's next", IllegalStateException.class, () -> x.play(0));
        Check.refused("no state's term", IllegalStateException.class, () -> x.sign(0, 0, 0));
        Check.refused("no states' defect", IllegalStateException.class, () -> x.defect(0));
        Check.refused("no states", IllegalStateException.class, () -> x.state(0, 0));
        Check.refused("no states' next", IllegalStateException.class, () -> x.next(0, 0));
        Check.refused("no states' value", IllegalStateException.class, () -> x.value(0));
        Check.refused("no states' best", IllegalStateException.class, () -> x.best(0));
    }

    /** "or the fault (the sheet before stays, with its state and states)": for each of the faults. */
    private static void sheetStays() {
        for (int kind = 1; kind <= 7; kind++) {
            int fault = kind;
            RuleSheets x = Check.started(GAME);
            x.play(1);
            x.explore();
            writeAnew(x, FAULTY[kind - 1]);
            Check.due("read() with fault " + kind, kind, x::read);
            Check.due("where fault " + kind + " is", WHERE[kind - 1], x::fault);
            Check.due("the sheet's rules", 14, () -> x.sheet(0));
            Check.due("the sheet's roles", 2, () -> x.sheet(1));
            Check.due("its role", 'b', () -> x.sign(5, 1, 0));
            Check.due("its state", 'v', () -> x.sign(0, 0, 0));
            Check.due("its goal", 60, () -> x.goal(0));
            Check.due("its moves", 'n', () -> x.sign(1, 1, 0));
            Check.due("its states", 0, () -> x.defect(0));
            Check.due("their value", 60, () -> x.value(0));
            Check.due("play goes on behind fault " + fault, 1, () -> x.play(0));
            Check.due("explore goes on", 3, x::explore);
            Check.due("start goes on", 2, x::start);
        }
    }

    /** A fault where there is no sheet before leaves none, and a sheet without a state stays so. */
    private static void nothingStays() {
        for (int kind = 1; kind <= 7; kind++) {
            RuleSheets x = Check.with(FAULTY[kind - 1]);
            Check.due("read() with fault " + kind, kind, x::read);
            Check.refused("no sheet", IllegalStateException.class, () -> x.sheet(0));
            Check.refused("no start", IllegalStateException.class, x::start);
            Check.refused("no explore", IllegalStateException.class, x::explore);
            Check.refused("no role", IllegalStateException.class, () -> x.sign(5, 0, 0));
            writeAnew(x, "(role a)");
            Check.due("read() of a sheet", 0, x::read);
            writeAnew(x, FAULTY[kind - 1]);
            Check.due("read() with fault " + kind + " again", kind, x::read);
            Check.due("the sheet stays", 1, () -> x.sheet(0));
            noStates(x);
        }
    }

    /** "The text stays": behind both kinds of answers more can be put and read. */
    private static void textStays() {
        RuleSheets x = Check.with("(role a)(init b");
        Check.due("read() of a part", 1, x::read);
        Check.due("the text's end", 15, x::fault);
        Check.due("all signs are there", 15, () -> x.put(0));
        Check.due("one more", 16, () -> x.put(')'));
        Check.due("read() of all", 0, x::read);
        Check.due("all signs are there still", 16, () -> x.put(0));
        Check.due("one more", 17, () -> x.put('c'));
        Check.due("read() of more", 0, x::read);
        Check.due("three rules", 3, () -> x.sheet(0));
        Check.due("read() once more", 0, x::read);
        Check.due("three rules still", 3, () -> x.sheet(0));
    }

    /** "Where the fault is that the latest read() found; NONE if it found none, or there was none" */
    private static void latestFault() {
        RuleSheets x = new RuleSheets();
        Check.due("fault() without a read", -1, x::fault);
        Check.write(x, "(p");
        Check.due("fault() without a read of a text", -1, x::fault);
        Check.due("read() of '(p'", 1, x::read);
        Check.due("fault() of '(p'", 2, x::fault);
        Check.write(x, " a)");
        Check.due("fault() stays behind put", 2, x::fault);
        x.end(0);
        Check.due("fault() stays behind end", 2, x::fault);
        Check.due("read() of nothing", 1, x::read);
        Check.due("fault() of nothing", 0, x::fault);
        Check.write(x, "a");
        Check.due("read() of 'a'", 0, x::read);
        Check.due("fault() of 'a'", -1, x::fault);
        for (int kind = 1; kind <= 7; kind++) {
            writeAnew(x, FAULTY[kind - 1]);
            Check.due("read() with fault " + kind, kind, x::read);
            Check.due("where it is", WHERE[kind - 1], x::fault);
            Check.due("where it is, once more", WHERE[kind - 1], x::fault);
        }
        writeAnew(x, "b");
        Check.due("read() of 'b'", 0, x::read);
        Check.due("fault() of 'b'", -1, x::fault);
        x.end(0);
        Check.due("no fault() behind end", -1, x::fault);
    }

    /** Nothing of a text behind its end is seen, and nothing of a sheet that was read before. */
    private static void left() {
        RuleSheets x = Check.with("(<= a)");
        x.end(2);
        Check.due("read() of '(<'", 1, x::read);
        Check.due("its place", 1, x::fault);
        x.end(1);
        Check.due("read() of '('", 1, x::read);
        Check.due("the text's end", 1, x::fault);
        writeAnew(x, "(<= terminal p)(<= p (does a b))");
        Check.due("terminal by does", 4, x::read);
        writeAnew(x, "terminal p (p_ a b c)");
        Check.due("terminal alone", 0, x::read);
        writeAnew(x, "terminal p (p_ a)");
        Check.due("another number of terms", 0, x::read);
        Check.due("no fault is left", -1, x::fault);
        writeAnew(x, "?x");
        x.end(1);
        Check.due("read() of '?'", 1, x::read);
        writeAnew(x, "abcdefghijklmnopq");
        Check.due("read() of seventeen letters", 1, x::read);
        x.end(16);
        Check.due("read() of sixteen letters", 0, x::read);
    }

    /** Each read is like the first one, however often the text has been read. */
    private static void again() {
        String many = "(g" + Check.repeat("(f a b c d)", 4) + ")";
        RuleSheets x = Check.with(Check.repeat("(p" + Check.repeat(many, 4) + ")", 9));
        StringBuilder heads = new StringBuilder();
        for (int k = 0; k < 60; k++) {
            heads.append("(<= p").append(k).append(" b c d e f g)");
        }
        RuleSheets y = Check.with(heads.toString());
        for (int n = 0; n < 12; n++) {
            Check.due("read() of many terms, time " + n, 0, x::read);
            Check.due("its rules", 9, () -> x.sheet(0));
            Check.due("read() of many relations, time " + n, 0, y::read);
            Check.due("its rules", 60, () -> y.sheet(0));
        }
    }

    /** Reads sheets in turn, and holds the number of terms that they start with against what is due; -1 if too great. */
    private static void inTurn(int rounds, String[] sheets, int[] due) {
        RuleSheets x = new RuleSheets();
        for (int n = 0; n < rounds; n++) {
            int k = n % sheets.length;
            writeAnew(x, sheets[k]);
            Check.due("read() of " + sheets[k], 0, x::read);
            if (due[k] < 0) {
                Check.refused("start() of " + sheets[k], UnsupportedOperationException.class, x::start);
            } else {
                Check.due("start() of " + sheets[k], due[k], x::start);
            }
        }
    }

    /** Nothing of a sheet that was read before is seen: rules that need themselves, atoms, what was too great. */
    private static void others() {
        inTurn(6, new String[] {"p (<= (init a) q (init_ b)) (<= q q) (<= (init_ b) (init_ b))", "p", "(<= (init b) r) (<= r s) (<= s t) t (<= (init c) (not q))"},
            new int[] {0, 0, 2});
        inTurn(8, new String[] {"(init a)(init b)", "p (init b)", "(role a)(role b)", "p (init c)(<= (init role) (role ?x))"}, new int[] {2, 1, 0, 1});
        inTurn(5, new String[] {HoldsTest.atoms(23), "(init a)"}, new int[] {-1, 1});
        String[] circles = {"(<= a a)(<= b a)(<= (init s) b)(<= a c)", "(<= b a)(<= (init s) b)(<= c c)a", "(<= (init s) a)(<= a b)(<= b c)c", "a(<= b b)(<= b a)(<= (init s) b)"};
        for (int first = 0; first < 4; first++) {
            for (int third = 0; third < 4; third++) {
                inTurn(3, new String[] {circles[first], "p", circles[third]}, new int[] {first == 0 ? 0 : 1, 0, third == 0 ? 0 : 1});
            }
        }
    }

    /** "How many rules the sheet has (what = 0), how many roles (1; 0 to 4)" */
    private static void counts() {
        RuleSheets x = Check.reading("(role a) (role b) (role a) (<= (role c)) p (role (d e)) (role f)");
        Check.due("sheet(0)", 7, () -> x.sheet(0));
        Check.due("sheet(1)", 4, () -> x.sheet(1));
        Check.due("one rule", 1, () -> Check.reading("p").sheet(0));
        Check.due("sixty rules", 60, () -> Check.reading(Check.repeat("a ", 60)).sheet(0));
        for (int roles = 0; roles <= 6; roles++) {
            int count = roles;
            Check.due("roles of " + roles, Math.min(roles, 4), () -> Check.reading("p" + Check.facts("role", count)).sheet(1));
        }
        Check.due("no roles by terms", 0, () -> Check.reading("(p role) (q (role a)) (<= r (role a))").sheet(1));
    }

    /** "IllegalStateException if there is none; IllegalArgumentException for another what" */
    private static void wrongWhat() {
        for (int what : new int[] {-1, 2, Integer.MIN_VALUE, Integer.MAX_VALUE}) {
            Check.leaves("sheet(" + what + ")", IllegalArgumentException.class, () -> Check.started(GAME), x -> x.sheet(what));
            Check.leaves("sheet(" + what + ") without one", IllegalStateException.class, () -> Check.with(GAME), x -> x.sheet(what));
        }
        Check.leaves("sheet(0) without one", IllegalStateException.class, () -> Check.with(GAME), x -> x.sheet(0));
        Check.leaves("sheet(1) without one", IllegalStateException.class, RuleSheets::new, x -> x.sheet(1));
    }

    public static void main(String[] args) {
        newSheet();
        sheetStays();
        nothingStays();
        textStays();
        latestFault();
        left();
        again();
        others();
        counts();
        wrongWhat();
        Check.finish();
    }
}
