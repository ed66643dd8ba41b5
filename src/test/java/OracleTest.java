import java.util.ArrayList;
import java.util.Collections;
import java.util.List;
import java.util.Random;

/** All promises: sheets made by chance, and calls held against the oracle's answers, 512 of an object at most. */
public final class OracleTest {
    private static final int MOST_CALLS = 512;

    private static final int[] faults = new int[8];
    private static final int[] defects = new int[7];
    private static int great;
    private static int explored;

    private final RuleSheets x = new RuleSheets();
    private final Oracle o = new Oracle();
    private final SheetMaker maker;
    private final Random chance;
    private int left = MOST_CALLS;
    private String text = "";

    private OracleTest(long seed, long way) {
        maker = new SheetMaker(seed);
        chance = new Random(way);
    }

    private static String answer(Check.Call call) {
        try {
            return Long.toString(call.answer());
        } catch (RuntimeException e) {
            return e.getClass().getSimpleName();
        }
    }

    /** Asks both, as long as the object has calls left; tells what is due. */
    private String same(String what, Check.Call got, Check.Call want) {
        if (left == 0) {
            return "";
        }
        left--;
        String due = answer(want);
        String its = answer(got);
        Check.asked++;
        if (!its.equals(due)) {
            Check.fail(what + " answered " + its + ", the oracle " + due + ", for the sheet\n" + text);
        }
        return due;
    }

    private static int number(String answer) {
        return answer.matches("-?[0-9]+") ? Integer.parseInt(answer) : 0;
    }

    /** The numbers from -1 up to count, in any order, so that each has its turn. */
    private List<Integer> shuffled(int count) {
        List<Integer> all = new ArrayList<>();
        for (int n = -1; n <= count; n++) {
            all.add(n);
        }
        Collections.shuffle(all, chance);
        return all;
    }

    private boolean enough(int calls) {
        return left <= calls;
    }

    /** Some texts, each up to its end, or some sign of it. */
    private void compareTexts(int what, int count, int some) {
        int asked = 0;
        for (int i : shuffled(count)) {
            if (asked++ == some) {
                return;
            }
            int first = chance.nextInt(3) == 0 ? chance.nextInt(50) - 2 : 0;
            for (int k = first; k < 60; k++) {
                int place = k;
                String due = same("sign(" + what + "," + i + "," + k + ")", () -> x.sign(what, i, place), () -> o.sign(what, i, place));
                if (first != 0 || number(due) <= 0) {
                    break;
                }
            }
        }
    }

    private void compareState(int terms) {
        compareTexts(0, terms, 3);
        same("terminal()", () -> x.terminal() ? 1 : 0, o::terminal);
        for (int r : shuffled(4).subList(0, 4)) {
            int moves = number(same("moves(" + r + ")", () -> x.moves(r), () -> o.moves(r)));
            same("goal(" + r + ")", () -> x.goal(r), () -> o.goal(r));
            compareTexts(1 + r, moves, 1);
        }
    }

    private int compareExplore() {
        String due = same("explore()", x::explore, o::explore);
        if (due.equals("UnsupportedOperationException")) {
            great++;
        } else if (due.matches("[0-9]+")) {
            explored++;
            defects[o.defect(0)]++;
        }
        return number(due);
    }

    private void compareStates(int count, int keep) {
        for (int what : shuffled(2)) {
            same("defect(" + what + ")", () -> x.defect(what), () -> o.defect(what));
        }
        for (int n : shuffled(count)) {
            if (enough(keep)) {
                return;
            }
            same("value(" + n + ")", () -> x.value(n), () -> o.value(n));
            same("best(" + n + ")", () -> x.best(n), () -> o.best(n));
            for (int what : shuffled(3).subList(0, 3)) {
                same("state(" + n + "," + what + ")", () -> x.state(n, what), () -> o.state(n, what));
            }
            int joint = number(answer(() -> o.state(n, 2)));
            for (int j : shuffled(joint).subList(0, 2)) {
                same("next(" + n + "," + j + ")", () -> x.next(n, j), () -> o.next(n, j));
            }
        }
    }

    private void write(String more) {
        text = more;
        x.end(0);
        o.end(0);
        left--;
        for (int k = 0; k < text.length(); k += 4) {
            x.put(Check.four(text, k));
            o.put(Check.four(text, k));
            left--;
        }
    }

    private void play(int steps) {
        compareState(number(same("start()", x::start, o::start)));
        for (int n = 0; n < steps; n++) {
            int j = chance.nextInt(8) == 0 ? chance.nextInt(50) - 2 : chance.nextInt(4);
            String due = same("play(" + j + ")", () -> x.play(j), () -> o.play(j));
            if (chance.nextBoolean()) {
                compareState(number(due));
            }
        }
    }

    private String someText() {
        String some = switch (chance.nextInt(4)) {
            case 0 -> maker.graphGame();
            case 1 -> maker.pathGame();
            default -> maker.anySheet();
        };
        if (chance.nextInt(4) == 0) {
            some = chance.nextInt(4) == 0 ? maker.soup() : maker.spoilt(some);
        }
        return some.substring(0, Math.min(some.length(), 2000));
    }

    private void compareSheet() {
        faults[number(same("read()", x::read, o::read))]++;
        same("fault()", x::fault, o::fault);
        for (int what : shuffled(2)) {
            same("sheet(" + what + ")", () -> x.sheet(what), () -> o.sheet(what));
        }
        compareTexts(5, number(answer(() -> o.sheet(1))), 2);
    }

    /** One object goes through several sheets, so that what stays of one would be seen in the next. */
    private void go() {
        for (int n = 0; n < 4; n++) {
            String more = someText();
            if (more.length() / 4 + 20 > left) {
                return;
            }
            write(more);
            int keep = chance.nextInt(3) == 0 ? 0 : left / 2;
            compareSheet();
            int count = chance.nextBoolean() ? compareExplore() : 0;
            if (chance.nextInt(3) != 0) {
                play(chance.nextInt(5));
                count = compareExplore();
            }
            compareStates(count, keep);
            if (chance.nextBoolean()) {
                compareState(2);
            }
        }
    }

    public static void main(String[] args) {
        int rounds = args.length > 0 ? Integer.parseInt(args[0]) : 600;
        long seed = args.length > 1 ? Long.parseLong(args[1]) : 1;
        for (int n = 0; n < rounds; n++) {
            new OracleTest(seed + n, seed * 31 + n).go();
        }
        StringBuilder told = new StringBuilder("sheets by fault:");
        for (int n : faults) {
            told.append(' ').append(n);
        }
        told.append("; explored ").append(explored).append(", too great ").append(great).append("; by defect:");
        for (int n : defects) {
            told.append(' ').append(n);
        }
        System.out.println(told);
        Check.finish();
    }
}
