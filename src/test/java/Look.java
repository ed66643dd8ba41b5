/** All that can be asked of an object, written down; so few calls that an object's 512 are enough. */
final class Look {
    private static final int MOST_TEXTS = 6;
    private static final int MOST_STATES = 8;
    private static final int MOST_MOVES = 3;

    private final RuleSheets x;
    private final StringBuilder out = new StringBuilder();

    private Look(RuleSheets itsObject) {
        x = itsObject;
    }

    /** Asks for all that there is; then goes on with play, explore and read, to see what they find. */
    static String at(RuleSheets x) {
        Look look = new Look(x);
        look.text();
        look.sheet();
        look.state();
        look.states();
        look.tell("play", () -> x.play(0));
        look.state();
        look.tell("explore", x::explore);
        look.states();
        look.tell("start", x::start);
        look.texts(0);
        look.tell("read", x::read);
        look.text();
        look.sheet();
        return look.out.toString();
    }

    /** Tells an answer, or what was thrown, and whether there was an answer. */
    private boolean tell(String what, Check.Call call) {
        out.append(what).append('=');
        try {
            out.append(call.answer()).append(' ');
            return true;
        } catch (RuntimeException e) {
            out.append(e.getClass().getSimpleName()).append(' ');
            return false;
        }
    }

    private void text() {
        tell("signs", () -> x.put(0));
        tell("fault", x::fault);
    }

    private void sheet() {
        tell("rules", () -> x.sheet(0));
        tell("roles", () -> x.sheet(1));
        texts(5);
    }

    /** The first sign of each text, and the last of each that is short. */
    private void texts(int what) {
        for (int i = 0; i < MOST_TEXTS; i++) {
            int n = i;
            if (!tell("text", () -> x.sign(what, n, 0))) {
                return;
            }
            tell("sign", () -> x.sign(what, n, 6));
        }
    }

    private void state() {
        texts(0);
        tell("terminal", () -> x.terminal() ? 1 : 0);
        for (int r = 0; r < 2; r++) {
            int role = r;
            tell("goal", () -> x.goal(role));
            if (tell("moves", () -> x.moves(role))) {
                texts(1 + role);
            }
        }
    }

    private void states() {
        tell("defect", () -> x.defect(0));
        tell("where", () -> x.defect(1));
        for (int k = 0; k < MOST_STATES; k++) {
            int n = k;
            if (!tell("terms", () -> x.state(n, 0))) {
                return;
            }
            tell("over", () -> x.state(n, 1));
            tell("joint", () -> x.state(n, 2));
            for (int j = 0; j < MOST_MOVES; j++) {
                int move = j;
                tell("next", () -> x.next(n, move));
            }
            tell("value", () -> x.value(n));
            tell("best", () -> x.best(n));
        }
    }
}
