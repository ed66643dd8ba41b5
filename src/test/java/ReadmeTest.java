import java.io.IOException;
import java.nio.file.Files;
import java.nio.file.Path;
import java.util.ArrayList;
import java.util.List;

/** The example of README.md: its lines stand here, and answer what it says. */
public final class ReadmeTest {
    private ReadmeTest() {
    }

    private static void example() {
        String sheet = """
            (role ann) (role bob)
            (init (heap 4)) (init (turn ann))
            (other ann bob) (other bob ann)
            (take one 4 3) (take one 3 2) (take one 2 1) (take one 1 0)
            (take two 4 2) (take two 3 1) (take two 2 0)
            (<= (legal ?r ?m) (true (turn ?r)) (true (heap ?n)) (take ?m ?n ?k))
            (<= (legal ?r wait) (true (turn ?o)) (other ?o ?r))
            (<= (next (heap ?k)) (does ?r ?m) (true (heap ?n)) (take ?m ?n ?k))
            (<= (next (turn ?r)) (true (turn ?o)) (other ?o ?r))
            (<= terminal (true (heap 0))) ; who is to take now has lost
            (<= (goal ?r 0) terminal (true (turn ?r)))
            (<= (goal ?r 100) terminal (true (turn ?o)) (other ?o ?r))
            """;
        RuleSheets game = new RuleSheets();
        for (int k = 0; k < sheet.length(); k += 4) {
            int signs = 0;
            for (int n = 0; n < 4 && k + n < sheet.length(); n++) {
                signs |= sheet.charAt(k + n) << 8 * n;  // the lowest byte first
            }
            game.put(signs);
        }
        int kind = game.read();          // 0; otherwise the kind of fault, and fault() tells where it is
        int size = game.start();         // 2: the initial state's terms, (heap 4) and (turn ann)
        int moves = game.moves(0);       // 2: ann's moves, one and two
        int sign = game.sign(1, 0, 0);   // 'o': the first sign of the first of them
        int after = game.play(1);        // 2: the next state's terms, by joint move 1 (two and wait)
        boolean over = game.terminal();  // false
        int states = game.explore();     // 8: all states that can come; the state stays
        int defect = game.defect(0);     // 0: there is none, so each state has a value
        int value = game.value(0);       // 100: what ann can reach from the initial state
        int best = game.best(0);         // 0: by joint move 0 (one and wait)
        int to = game.next(0, best);     // 1: the state that comes by it

        Check.due("kind", 0, () -> kind);
        Check.due("size", 2, () -> size);
        Check.due("moves", 2, () -> moves);
        Check.due("sign", 'o', () -> sign);
        Check.due("after", 2, () -> after);
        Check.holds("over", !over);
        Check.due("states", 8, () -> states);
        Check.due("defect", 0, () -> defect);
        Check.due("value", 100, () -> value);
        Check.due("best", 0, () -> best);
        Check.due("to", 1, () -> to);
        Check.same("the state behind joint move 1", "(heap 2) (turn bob)", Check.text(game, 0, 0) + " " + Check.text(game, 0, 1));
    }

    private static List<String> linesOf(String file) throws IOException {
        List<String> lines = new ArrayList<>();
        for (String line : Files.readAllLines(Path.of(file))) {
            lines.add(line.strip());
        }
        return lines;
    }

    /** The lines between ```java and ``` stand in this file, one behind the other. */
    private static void isTheSame() throws IOException {
        List<String> readme = linesOf("README.md");
        int from = readme.indexOf("```java") + 1;
        int to = from + readme.subList(from, readme.size()).indexOf("```");
        Check.holds("README.md has an example", from > 0 && to > from);
        String written = String.join("\n", readme.subList(from, to));
        String here = String.join("\n", linesOf("src/test/java/ReadmeTest.java"));
        Check.holds("the example of README.md is the one that is run", here.contains(written));
    }

    public static void main(String[] args) throws IOException {
        example();
        isTheSame();
        Check.finish();
    }
}
