import java.util.LinkedHashMap;
import java.util.Map;

/**
 * "A call that throws changes nothing. Of several exceptions that one goes which the call names first; but
 * IndexOutOfBoundsException for a number that is too great goes behind UnsupportedOperationException (for
 * one below 0, for a role that there isn't, and where there are no roles, ahead of it)."
 *
 * Each call is made of an object in each of thirteen ways to be, with numbers at both edges of what is well.
 */
public final class RefusedTest {
    private static final int MOST = Integer.MAX_VALUE;
    private static final int LEAST = Integer.MIN_VALUE;

    /** Two roles, of which the first has two moves and the second has one, and a state of two terms. */
    private static final String TWO = "(role a)(role b)(init s)(init t)(legal a m)(legal a n)(legal b m)";

    private static final Map<Character, Check.Maker> WAYS = new LinkedHashMap<>();

    private RefusedTest() {
    }

    private static RuleSheets spoilt() {
        RuleSheets x = Check.with("(role a) )");
        x.read();
        return x;
    }

    private static RuleSheets explored(RuleSheets x) {
        x.explore();
        return x;
    }

    private static void ways() {
        WAYS.put('n', RuleSheets::new);
        WAYS.put('u', () -> Check.with(TWO));
        WAYS.put('s', RefusedTest::spoilt);
        WAYS.put('r', () -> Check.reading(PlayTest.HEAP));
        WAYS.put('t', () -> Check.started(PlayTest.HEAP));
        WAYS.put('e', () -> explored(Check.reading(PlayTest.HEAP)));
        WAYS.put('b', () -> explored(Check.started(PlayTest.HEAP)));
        WAYS.put('d', () -> explored(Check.started(TWO)));
        // 1001 atoms with the state's own ones; with those of a joint move; the same without roles; without a state.
        WAYS.put('g', () -> Check.started(TWO + HoldsTest.atoms(14)));
        WAYS.put('x', () -> Check.started(TWO + HoldsTest.atoms(13)));
        WAYS.put('o', () -> Check.started("(init s)(init t)(legal a m)"));
        WAYS.put('p', () -> Check.started("(init s)(init t)" + HoldsTest.atoms(19)));
        WAYS.put('h', () -> Check.reading("(role a)(role b)(init s)(init t)" + HoldsTest.atoms(20)));
    }

    /** What is due of a call in each of the ways: a . for any answer, otherwise an exception's letter. */
    private static void row(String call, String due, Check.Ask ask) {
        int k = 0;
        for (Map.Entry<Character, Check.Maker> way : WAYS.entrySet()) {
            char its = due.charAt(k++);
            String what = call + " in way " + way.getKey();
            if (its == '.') {
                RuleSheets x = way.getValue().make();
                Check.holds(what + " must answer", answers(x, ask));
            } else {
                Check.leaves(what, named(its), way.getValue(), ask);
            }
        }
        Check.holds("the row of " + call + " has all ways", k == due.length());
    }

    private static boolean answers(RuleSheets x, Check.Ask ask) {
        try {
            ask.of(x);
            return true;
        } catch (RuntimeException e) {
            return false;
        }
    }

    private static Class<? extends RuntimeException> named(char letter) {
        return switch (letter) {
            case 'S' -> IllegalStateException.class;
            case 'A' -> IllegalArgumentException.class;
            case 'X' -> IndexOutOfBoundsException.class;
            default -> UnsupportedOperationException.class;
        };
    }

    private static void sheets() {
        //                nusrtebdgxoph
        row("sheet(-1)", "SSSAAAAAAAAAA", x -> x.sheet(-1));
        row("sheet(0)", "SSS..........", x -> x.sheet(0));
        row("sheet(1)", "SSS..........", x -> x.sheet(1));
        row("sheet(2)", "SSSAAAAAAAAAA", x -> x.sheet(2));
        row("start()", "SSS.........U", RuleSheets::start);
        row("explore()", "SSS.....UU.UU", RuleSheets::explore);
    }

    private static void roles() {
        for (int r : new int[] {LEAST, -1, 2, 3, 4, 5, MOST}) {
            row("moves(" + r + ")", "SSSSXSXXXXXXS", x -> x.moves(r));
            row("goal(" + r + ")", "SSSSXSXXXXXXS", x -> x.goal(r));
        }
        for (int r = 0; r < 2; r++) {
            int role = r;
            row("moves(" + r + ")", "SSSS.S..U.XXS", x -> x.moves(role));
            row("goal(" + r + ")", "SSSS.S..U.XXS", x -> x.goal(role));
        }
        row("terminal()", "SSSS.S..U..US", x -> x.terminal() ? 1 : 0);
    }

    private static void plays() {
        row("play(LEAST)", "SSSSXSXXXXXXS", x -> x.play(LEAST));
        row("play(-1)", "SSSSXSXXXXXXS", x -> x.play(-1));
        row("play(0)", "SSSS.S..UUXXS", x -> x.play(0));
        row("play(1)", "SSSS.S..UUXXS", x -> x.play(1));
        row("play(2)", "SSSSXSXXUXXXS", x -> x.play(2));
        row("play(MOST)", "SSSSXSXXUXXXS", x -> x.play(MOST));
    }

    private static void signsOfState() {
        for (int what : new int[] {LEAST, -1, 6, MOST}) {
            row("sign(" + what + ",0,0)", "SSSAAAAAAAAAA", x -> x.sign(what, 0, 0));
            row("sign(" + what + ",-1,-1)", "SSSAAAAAAAAAA", x -> x.sign(what, -1, -1));
        }
        row("sign(0,-1,0)", "SSSSXSXXXXXXS", x -> x.sign(0, -1, 0));
        row("sign(0,LEAST,0)", "SSSSXSXXXXXXS", x -> x.sign(0, LEAST, 0));
        row("sign(0,0,-1)", "SSSSXSXXXXXXS", x -> x.sign(0, 0, -1));
        row("sign(0,0,LEAST)", "SSSSXSXXXXXXS", x -> x.sign(0, 0, LEAST));
        row("sign(0,0,0)", "SSSS.S......S", x -> x.sign(0, 0, 0));
        row("sign(0,1,MOST)", "SSSS.S......S", x -> x.sign(0, 1, MOST));
        row("sign(0,2,0)", "SSSSXSXXXXXXS", x -> x.sign(0, 2, 0));
        row("sign(0,MOST,0)", "SSSSXSXXXXXXS", x -> x.sign(0, MOST, 0));
    }

    private static void signsOfMoves() {
        row("sign(1,-1,0)", "SSSSXSXXXXXXS", x -> x.sign(1, -1, 0));
        row("sign(1,0,-1)", "SSSSXSXXXXXXS", x -> x.sign(1, 0, -1));
        row("sign(1,0,0)", "SSSS.S..U.XXS", x -> x.sign(1, 0, 0));
        row("sign(1,1,MOST)", "SSSS.S..U.XXS", x -> x.sign(1, 1, MOST));
        row("sign(1,2,0)", "SSSSXSXXUXXXS", x -> x.sign(1, 2, 0));
        row("sign(1,MOST,0)", "SSSSXSXXUXXXS", x -> x.sign(1, MOST, 0));
        row("sign(1,2,-1)", "SSSSXSXXXXXXS", x -> x.sign(1, 2, -1));
        row("sign(2,-1,0)", "SSSSXSXXXXXXS", x -> x.sign(2, -1, 0));
        row("sign(2,0,-1)", "SSSSXSXXXXXXS", x -> x.sign(2, 0, -1));
        row("sign(2,0,0)", "SSSS.S..U.XXS", x -> x.sign(2, 0, 0));
        row("sign(2,1,0)", "SSSSXSXXUXXXS", x -> x.sign(2, 1, 0));
        row("sign(3,0,0)", "SSSSXSXXXXXXS", x -> x.sign(3, 0, 0));
        row("sign(4,0,0)", "SSSSXSXXXXXXS", x -> x.sign(4, 0, 0));
    }

    private static void signsOfRoles() {
        row("sign(5,-1,0)", "SSSXXXXXXXXXX", x -> x.sign(5, -1, 0));
        row("sign(5,0,-1)", "SSSXXXXXXXXXX", x -> x.sign(5, 0, -1));
        row("sign(5,0,0)", "SSS.......XX.", x -> x.sign(5, 0, 0));
        row("sign(5,1,MOST)", "SSS.......XX.", x -> x.sign(5, 1, MOST));
        row("sign(5,2,0)", "SSSXXXXXXXXXX", x -> x.sign(5, 2, 0));
        row("sign(5,MOST,0)", "SSSXXXXXXXXXX", x -> x.sign(5, MOST, 0));
    }

    /** The first sheet has eight states, the one with a defect has two; both have two joint moves in state 0. */
    private static void states() {
        for (int what : new int[] {LEAST, -1, 2, MOST}) {
            row("defect(" + what + ")", "SSSSSAAASSSSS", x -> x.defect(what));
        }
        row("defect(0)", "SSSSS...SSSSS", x -> x.defect(0));
        row("defect(1)", "SSSSS...SSSSS", x -> x.defect(1));
        for (int what = 0; what < 3; what++) {
            int its = what;
            row("state(0," + what + ")", "SSSSS...SSSSS", x -> x.state(0, its));
            row("state(1," + what + ")", "SSSSS...SSSSS", x -> x.state(1, its));
            row("state(7," + what + ")", "SSSSS..XSSSSS", x -> x.state(7, its));
        }
        for (int what : new int[] {LEAST, -1, 3, MOST}) {
            row("state(0," + what + ")", "SSSSSAAASSSSS", x -> x.state(0, what));
            row("state(7," + what + ")", "SSSSSAAXSSSSS", x -> x.state(7, what));
        }
        for (int n : new int[] {LEAST, -1, 8, 299, 300, MOST}) {
            row("state(" + n + ",0)", "SSSSSXXXSSSSS", x -> x.state(n, 0));
            row("state(" + n + ",3)", "SSSSSXXXSSSSS", x -> x.state(n, 3));
            row("state(" + n + ",-1)", "SSSSSXXXSSSSS", x -> x.state(n, -1));
            row("next(" + n + ",0)", "SSSSSXXXSSSSS", x -> x.next(n, 0));
            row("value(" + n + ")", "SSSSSXXSSSSSS", x -> x.value(n));
            row("best(" + n + ")", "SSSSSXXSSSSSS", x -> x.best(n));
        }
    }

    private static void followers() {
        row("next(0,LEAST)", "SSSSSXXXSSSSS", x -> x.next(0, LEAST));
        row("next(0,-1)", "SSSSSXXXSSSSS", x -> x.next(0, -1));
        row("next(0,0)", "SSSSS...SSSSS", x -> x.next(0, 0));
        row("next(0,1)", "SSSSS...SSSSS", x -> x.next(0, 1));
        row("next(0,2)", "SSSSSXXXSSSSS", x -> x.next(0, 2));
        row("next(0,MOST)", "SSSSSXXXSSSSS", x -> x.next(0, MOST));
        row("next(7,0)", "SSSSSXXXSSSSS", x -> x.next(7, 0));
        row("value(0)", "SSSSS..SSSSSS", x -> x.value(0));
        row("value(7)", "SSSSS..SSSSSS", x -> x.value(7));
        row("best(0)", "SSSSS..SSSSSS", x -> x.best(0));
        row("best(7)", "SSSSS..SSSSSS", x -> x.best(7));
    }

    public static void main(String[] args) {
        ways();
        sheets();
        roles();
        plays();
        signsOfState();
        signsOfMoves();
        signsOfRoles();
        states();
        followers();
        Check.finish();
    }
}
