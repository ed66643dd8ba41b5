import java.util.ArrayList;
import java.util.List;
import java.util.Random;

/** Makes sheets by chance, the same ones for the same seed. */
final class SheetMaker {
    private static final String[] CONSTANTS = {"a", "b", "c", "x1", "0", "50", "100", "00", "a_", "aa"};
    private static final String[] RELATIONS = {"p", "q", "r", "s", "t", "u"};
    private static final int[] TERMS = {1, 2, 0, 1, 2, 3};
    private static final String[] VARIABLES = {"?x", "?y", "?z", "?not", "?distinct"};

    private final Random chance;

    SheetMaker(long seed) {
        chance = new Random(seed);
    }

    private String one(String[] some) {
        return some[chance.nextInt(some.length)];
    }

    private boolean in(int parts) {
        return chance.nextInt(parts) == 0;
    }

    private String term(List<String> variables, int depth) {
        int kind = chance.nextInt(10);
        if (kind < 5 && !variables.isEmpty()) {
            return variables.get(chance.nextInt(variables.size()));
        }
        if (kind < 7 && depth > 0) {
            StringBuilder out = new StringBuilder(in(2) ? "(f" : "(g");
            int n = in(6) ? 3 : 1 + chance.nextInt(2);
            for (int k = 0; k < n; k++) {
                out.append(' ').append(term(variables, depth - 1));
            }
            return out.append(')').toString();
        }
        return CONSTANTS[chance.nextInt(in(3) ? CONSTANTS.length : 3)];
    }

    private String atom(String name, int n, List<String> variables, int depth) {
        if (n == 0) {
            return name;
        }
        StringBuilder out = new StringBuilder("(").append(name);
        for (int k = 0; k < n; k++) {
            out.append(' ').append(term(variables, depth));
        }
        return out.append(')').toString();
    }

    /** A condition of a relation that stands below level, or now and then of any. */
    private String condition(int level, boolean does, List<String> variables) {
        int kind = chance.nextInt(10);
        if (kind < 3 && level >= 0) {
            return "(true " + term(variables, 1) + ")";
        }
        if (kind < 5 && does) {
            return "(does " + (in(2) ? "a" : term(variables, 0)) + " " + term(variables, 1) + ")";
        }
        int most = in(12) ? RELATIONS.length : Math.max(1, level);
        int r = chance.nextInt(Math.min(most, RELATIONS.length));
        return atom(RELATIONS[r], TERMS[r], variables, 1);
    }

    private String rule(String name, int n, int level, boolean does) {
        List<String> variables = new ArrayList<>();
        int count = 1 + chance.nextInt(3);
        for (int k = 0; k < count; k++) {
            variables.add(in(12) ? one(VARIABLES) : VARIABLES[k]);
        }
        StringBuilder body = new StringBuilder();
        int positive = 1 + chance.nextInt(3);
        for (int k = 0; k < positive; k++) {
            body.append(' ').append(condition(level, does, variables));
        }
        List<String> held = new ArrayList<>();
        for (String v : VARIABLES) {
            if (body.indexOf(v) >= 0) {
                held.add(v);
            }
        }
        if (in(3)) {
            body.append(" (not ").append(condition(level, does, in(20) ? variables : held)).append(')');
        }
        if (in(3)) {
            body.append(" (distinct ").append(term(held, 1)).append(' ').append(term(held, 1)).append(')');
        }
        return "(<= " + atom(name, n, in(30) ? variables : held, in(3) ? 1 : 0) + body + ")";
    }

    /** Any sheet at all; most of them can be read. */
    String anySheet() {
        StringBuilder out = new StringBuilder();
        int roles = in(4) ? chance.nextInt(6) : 1 + chance.nextInt(2);
        for (int k = 0; k < roles; k++) {
            out.append("(role ").append(in(12) ? term(List.of(), 2) : CONSTANTS[k]).append(")\n");
        }
        for (int k = chance.nextInt(4); k >= 0; k--) {
            out.append("(init ").append(term(List.of(), 2)).append(") ");
        }
        for (int k = chance.nextInt(6); k > 0; k--) {
            int r = chance.nextInt(3);
            out.append(atom(RELATIONS[r], TERMS[r], List.of(), 1)).append('\n');
        }
        for (int k = chance.nextInt(6); k > 0; k--) {
            int r = chance.nextInt(RELATIONS.length);
            out.append(rule(RELATIONS[r], TERMS[r], r, in(15))).append('\n');
        }
        for (int k = chance.nextInt(3); k >= 0; k--) {
            out.append(legal()).append('\n');
        }
        for (int k = chance.nextInt(4); k >= 0; k--) {
            out.append(rule("next", 1, RELATIONS.length, true)).append('\n');
        }
        if (in(2)) {
            out.append("(<= (next ?x) (true ?x)").append(in(2) ? " (not (does a ?x))" : "").append(")\n");
        }
        for (int k = chance.nextInt(3); k > 0; k--) {
            out.append(in(2) ? "(goal a " + one(CONSTANTS) + ")" : rule("goal", 2, RELATIONS.length, in(30))).append('\n');
        }
        if (in(2)) {
            out.append(rule("terminal", 0, RELATIONS.length, in(30))).append('\n');
        }
        if (in(8)) {
            out.append(rule("init", 1, in(2) ? -1 : 3, in(10))).append('\n');
        }
        return out.toString();
    }

    private String legal() {
        switch (chance.nextInt(4)) {
            case 0:
                return "(legal a " + term(List.of(), 1) + ")";
            case 1:
                return "(legal b " + term(List.of(), 1) + ")";
            case 2:
                return "(<= (legal ?y ?x) (role ?y) (true ?x))";
            default:
                return rule("legal", 2, RELATIONS.length, in(40));
        }
    }

    /** A game of two on a graph; many of them have no defect, and some circles. */
    String graphGame() {
        int size = 3 + chance.nextInt(9);
        boolean circles = in(4);
        boolean swaps = in(2);
        StringBuilder out = new StringBuilder("(role x)(role o)(init (at n0))(init (turn ").append(in(2) ? "x" : "o").append("))\n");
        boolean[] left = new boolean[size];
        for (int k = 0; k < size; k++) {
            int n = chance.nextInt(4);
            for (int e = 0; e < n && k < size - 1 && !(e > 0 && in(3)); e++) {
                int to = circles && in(5) ? chance.nextInt(size) : k + 1 + chance.nextInt(size - k - 1);
                out.append("(edge n").append(k).append(" n").append(to).append(')');
                left[k] = true;
            }
        }
        for (int k = 0; k < size; k++) {
            if (!left[k] && !in(25)) {
                String worth = one(new String[] {"0", "100", "50", "7", "007"});
                out.append("(worth n").append(k).append(' ').append(worth).append(')');
            }
        }
        out.append("(opp 0 100)(opp 100 0)(opp 50 50)(opp 7 ").append(in(8) ? "94" : "93").append(")(opp 007 93)(opp 007 093)\n");
        out.append("(other x o)(other o x)");
        out.append("(<= (legal ?r (go ?t)) (true (turn ?r)) (true (at ?s)) (edge ?s ?t))");
        out.append(in(15) ? "(<= (legal ?r noop) (role ?r))" : "(<= (legal ?r noop) (true (turn ?o)) (other ?r ?o))");
        out.append("(<= (next (at ?t)) (does ?r (go ?t)))");
        out.append(swaps ? "(<= (next (turn ?r)) (true (turn ?o)) (other ?r ?o))" : "(<= (next (turn ?r)) (true (turn ?r)) (does ?r (go n1)))(<= (next (turn ?r)) (true (turn ?o)) (other ?r ?o) (not (does ?o (go n1))))");
        out.append("(<= more (true (at ?s)) (edge ?s ?t))");
        out.append(in(20) ? "(<= terminal (true (at n1)))" : "(<= terminal (not more))");
        out.append("(<= (goal x ?v) (true (at ?s)) (worth ?s ?v))");
        out.append("(<= (goal o ?w) (true (at ?s)) (worth ?s ?v) (opp ?v ?w))");
        return out.toString();
    }

    /** A counter with ways to and fro, so that recursion and many states come. */
    String pathGame() {
        int size = 4 + chance.nextInt(in(6) ? 10 : 4);
        StringBuilder out = new StringBuilder("(role a)").append(in(3) ? "" : "(role b)");
        for (int k = 0; k + 1 < size; k++) {
            out.append("(succ ").append(k).append(' ').append(k + 1).append(')');
        }
        String[] ways = {"(less ?x ?y) (succ ?y ?z)", "(succ ?x ?y) (less ?y ?z)", "(less ?x ?y) (less ?y ?z) (num ?y)",
            "(num ?y) (less ?y ?z) (less ?x ?y)", "(less ?x ?y) (also ?y ?z) (num ?y)", "(less ?x ?y) (less ?y ?z)"};
        String way = ways[chance.nextInt(in(3) ? 6 : 5)];
        out.append("(<= (num ?x) (succ ?x ?y))(<= (also ?x ?y) (less ?x ?y))(<= (less ?x ?y) (succ ?x ?y))(<= (less ?x ?z) ").append(way).append(")\n");
        out.append(in(2) ? "(init (c 0))" : "(<= (init (c ?x)) (succ ?x 2))").append(in(2) ? "(init (d 0 0))" : "");
        out.append("(<= (legal a (to ?y)) (true (c ?x)) (succ ?x ?y))(<= (legal a stay) (true (c ?x)))(legal b wait)");
        out.append(in(2) ? "(<= (legal b (to ?y)) (true (c ?x)) (succ ?y ?x))" : "");
        out.append("(<= (next (c ?y)) (does ?r (to ?y)))(<= (next (c ?x)) (does a stay) (true (c ?x)))");
        out.append(in(3) ? "(<= (next (d ?x ?y)) (true (c ?x)) (true (d ?y ?z)))" : "");
        out.append("(<= terminal (true (c ?x)) (not (grows ?x)))(<= (grows ?x) (less ?x ").append(size - 1).append("))");
        out.append("(<= (goal a 100) terminal)(<= (goal b 0) terminal)(<= (goal a 0) (not terminal))");
        return out.toString();
    }

    /** A text with one or two places changed. */
    String spoilt(String text) {
        String out = text;
        String[] bits = {"(", ")", " ", "?", "<=", "<", "a", "not", "distinct", "(not ", ";", "\n", "?v9 ", "abcdefghijklmnopq",
            "abcdefghijklmnop", "A", "=", "true", "(true a)", "role", "(next a)", "(((((((((((", "terminal", "does"};
        for (int n = chance.nextInt(2); n >= 0; n--) {
            int from = chance.nextInt(out.length() + 1);
            int to = in(2) ? from : Math.min(out.length(), from + chance.nextInt(5));
            out = out.substring(0, from) + (in(4) ? "" : one(bits)) + out.substring(to);
        }
        return out;
    }

    /** Tokens in any order. */
    String soup() {
        String[] bits = {"(", "(", "(", ")", ")", ")", " a ", " b ", "?x", "?y", "<=", "(<= ", "(not ", "(distinct ", "not", "(f a", ";\n", " p ", "(p ?x)"};
        StringBuilder out = new StringBuilder(in(2) ? "(<= a " : "");
        for (int n = chance.nextInt(25); n > 0; n--) {
            out.append(one(bits));
        }
        return out.toString();
    }
}
