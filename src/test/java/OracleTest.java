import java.util.Random;

/** All promises: sheets made by chance, and every call held against the oracle's answer. */
public final class OracleTest {
    private static final int[] faults = new int[8];
    private static int great;
    private static int explored;
    private static final int[] defects = new int[7];

    private OracleTest() {
    }

    private static String answer(Check.Call call) {
        try {
            return Long.toString(call.answer());
        } catch (RuntimeException e) {
            return e.getClass().getSimpleName();
        }
    }

    private static String same(String text, String what, Check.Call got, Check.Call want) {
        String due = answer(want);
        String its = answer(got);
        Check.asked++;
        if (!its.equals(due)) {
            Check.fail(what + " answered " + its + ", the oracle " + due + ", for the sheet\n" + text);
        }
        return due;
    }

    private static int number(String answer) {
        return answer.matches("-?[0-9]+") ? Integer.parseInt(answer) : 0;
    }

    private static void compareTexts(String t, RuleSheets x, Oracle o, int what, int count) {
        for (int i = -1; i <= count; i++) {
            for (int k = -1; k < 60; k++) {
                int ii = i;
                int kk = k;
                String due = same(t, "sign(" + what + "," + i + "," + k + ")", () -> x.sign(what, ii, kk), () -> o.sign(what, ii, kk));
                if (k >= 0 && (due.equals("0") || !due.matches("[0-9]+"))) {
                    break;
                }
            }
        }
    }

    private static void compareState(String t, RuleSheets x, Oracle o, int terms) {
        compareTexts(t, x, o, 0, terms);
        same(t, "terminal()", () -> x.terminal() ? 1 : 0, o::terminal);
        for (int r = -1; r <= 4; r++) {
            int role = r;
            int moves = number(same(t, "moves(" + r + ")", () -> x.moves(role), () -> o.moves(role)));
            same(t, "goal(" + r + ")", () -> x.goal(role), () -> o.goal(role));
            compareTexts(t, x, o, 1 + r, Math.min(moves, 6));
        }
    }

    private static void compareAll(String t, RuleSheets x, Oracle o) {
        String due = same(t, "explore()", x::explore, o::explore);
        if (due.equals("UnsupportedOperationException")) {
            great++;
        } else if (due.matches("[0-9]+")) {
            explored++;
            defects[o.defect(0)]++;
        }
        int count = number(due);
        for (int what = -1; what <= 2; what++) {
            int w = what;
            same(t, "defect(" + what + ")", () -> x.defect(w), () -> o.defect(w));
        }
        for (int n = -1; n <= count; n++) {
            int s = n;
            for (int what = -1; what <= 3; what++) {
                int w = what;
                same(t, "state(" + n + "," + what + ")", () -> x.state(s, w), () -> o.state(s, w));
            }
            int joint = number(answer(() -> o.state(s, 2)));
            for (int j = -1; j <= joint; j++) {
                int m = j;
                same(t, "next(" + n + "," + j + ")", () -> x.next(s, m), () -> o.next(s, m));
            }
            same(t, "value(" + n + ")", () -> x.value(s), () -> o.value(s));
            same(t, "best(" + n + ")", () -> x.best(s), () -> o.best(s));
        }
    }

    private static void write(RuleSheets x, Oracle o, String text) {
        x.end(0);
        o.end(0);
        for (int k = 0; k < text.length(); k += 4) {
            x.put(Check.four(text, k));
            o.put(Check.four(text, k));
        }
    }

    private static void play(String t, RuleSheets x, Oracle o, Random chance, int steps) {
        compareState(t, x, o, number(same(t, "start()", x::start, o::start)));
        for (int n = 0; n < steps; n++) {
            int j = chance.nextInt(8) == 0 ? chance.nextInt(50) - 2 : chance.nextInt(4);
            String due = same(t, "play(" + j + ")", () -> x.play(j), () -> o.play(j));
            compareState(t, x, o, number(due));
        }
    }

    /** One object goes through several sheets, so that what stays of one would be seen in the next. */
    private static void go(SheetMaker maker, Random chance) {
        RuleSheets x = new RuleSheets();
        Oracle o = new Oracle();
        for (int n = 0; n < 4; n++) {
            String text = switch (chance.nextInt(4)) {
                case 0 -> maker.graphGame();
                case 1 -> maker.pathGame();
                default -> maker.anySheet();
            };
            if (chance.nextInt(4) == 0) {
                text = chance.nextInt(4) == 0 ? maker.soup() : maker.spoilt(text);
            }
            if (text.length() > 2000) {
                text = text.substring(0, 2000);
            }
            String t = text;
            write(x, o, text);
            faults[number(same(t, "read()", x::read, o::read))]++;
            same(t, "fault()", x::fault, o::fault);
            for (int what = -1; what <= 2; what++) {
                int w = what;
                same(t, "sheet(" + what + ")", () -> x.sheet(w), () -> o.sheet(w));
            }
            compareTexts(t, x, o, 5, number(answer(() -> o.sheet(1))));
            if (chance.nextInt(3) == 0) {
                compareAll(t, x, o);
            }
            play(t, x, o, chance, 4);
            compareAll(t, x, o);
            compareState(t, x, o, 2);
        }
    }

    public static void main(String[] args) {
        int rounds = args.length > 0 ? Integer.parseInt(args[0]) : 100;
        long seed = args.length > 1 ? Long.parseLong(args[1]) : 1;
        for (int n = 0; n < rounds; n++) {
            go(new SheetMaker(seed + n), new Random(seed * 31 + n));
        }
        StringBuilder told = new StringBuilder("sheets by fault:");
        for (int n : faults) {
            told.append(' ').append(n);
        }
        told.append("; explored ").append(explored).append(", too great ").append(great).append("; by defect:");
        for (int n : defects) {
            told.append(' ').append(n);
        }
        System.out.println(told);
        Check.finish();
    }
}
