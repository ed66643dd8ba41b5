/** Promises 1 (a new object), 2 (put) and 3 (end). */
public final class TextTest {
    private TextTest() {
    }

    private static void newObject() {
        RuleSheets x = new RuleSheets();
        Check.due("NONE", -1, () -> RuleSheets.NONE);
        Check.due("fault() of a new object", -1, x::fault);
        Check.refused("sheet(0) of a new object", IllegalStateException.class, () -> x.sheet(0));
        Check.refused("sheet(7) of a new object", IllegalStateException.class, () -> x.sheet(7));
        Check.refused("start() of a new object", IllegalStateException.class, x::start);
        Check.refused("moves(-1) of a new object", IllegalStateException.class, () -> x.moves(-1));
        Check.refused("terminal() of a new object", IllegalStateException.class, () -> x.terminal() ? 1 : 0);
        Check.refused("goal(9) of a new object", IllegalStateException.class, () -> x.goal(9));
        Check.refused("play(-1) of a new object", IllegalStateException.class, () -> x.play(-1));
        Check.refused("sign(9,-1,-1) of a new object", IllegalStateException.class, () -> x.sign(9, -1, -1));
        Check.refused("explore() of a new object", IllegalStateException.class, x::explore);
        Check.refused("defect(9) of a new object", IllegalStateException.class, () -> x.defect(9));
        Check.refused("state(-1,9) of a new object", IllegalStateException.class, () -> x.state(-1, 9));
        Check.refused("next(-1,-1) of a new object", IllegalStateException.class, () -> x.next(-1, -1));
        Check.refused("value(-1) of a new object", IllegalStateException.class, () -> x.value(-1));
        Check.refused("best(-1) of a new object", IllegalStateException.class, () -> x.best(-1));
        Check.due("read() of an empty text", 1, x::read);
        Check.due("fault() of an empty text", 0, x::fault);
    }

    private static void order() {
        RuleSheets x = new RuleSheets();
        Check.due("put(0)", 0, () -> x.put(0));
        Check.due("put of a sign and blanks left out", 1, () -> x.put('a' << 16));
        Check.due("put of two", 3, () -> x.put('b' | 'c' << 24));
        Check.due("put of four", 7, () -> x.put(Check.four("d e ", 0)));
        x.read();
        x.start();
        Check.due("rules of 'abcd e '", 2, () -> x.sheet(0));
        RuleSheets y = new RuleSheets();
        Check.write(y, "(role abcd)");
        y.read();
        Check.same("role of (role abcd)", "abcd", Check.text(y, 5, 0));
    }

    private static void signs() {
        for (int sign = 0; sign < 256; sign++) {
            for (int shift = 0; shift < 32; shift += 8) {
                RuleSheets x = new RuleSheets();
                int signs = sign << shift;
                boolean well = sign == 0 || sign == 10 || sign >= 32 && sign <= 126;
                if (well) {
                    Check.due("put(" + signs + ")", sign == 0 ? 0 : 1, () -> x.put(signs));
                } else {
                    int among = signs | 'a' << (shift + 8) % 32;
                    Check.refused("put(" + among + ")", IllegalArgumentException.class, () -> x.put(among));
                    Check.due("put(0) behind one that was refused", 0, () -> x.put(0));
                }
            }
        }
    }

    private static void full() {
        RuleSheets x = new RuleSheets();
        for (int k = 0; k < 499; k++) {
            x.put(Check.four("    ", 0));
        }
        Check.due("put up to 1999", 1999, () -> x.put(Check.four("  \n", 0)));
        Check.refused("put of two at 1999", UnsupportedOperationException.class, () -> x.put('a' | 'b' << 8));
        Check.refused("put of a wrong one and others at 1999", IllegalArgumentException.class, () -> x.put(Check.four("abc", 0) | 7 << 24));
        Check.due("put(0) at 1999", 1999, () -> x.put(0));
        Check.due("put of the last", 2000, () -> x.put('a' << 24));
        Check.due("put(0) at 2000", 2000, () -> x.put(0));
        Check.refused("put of one at 2000", UnsupportedOperationException.class, () -> x.put('a'));
        Check.refused("put of a wrong one at 2000", IllegalArgumentException.class, () -> x.put(127 << 8 | 'a'));
        Check.due("read() of a full text", 0, x::read);
        x.end(1999);
        Check.due("read() of blanks", 1, x::read);
        Check.due("fault() of blanks", 1999, x::fault);
    }

    private static void end() {
        RuleSheets x = Check.with("a b");
        Check.refused("end(-1)", IllegalArgumentException.class, () -> ended(x, -1));
        Check.refused("end(4) of three", IllegalArgumentException.class, () -> ended(x, 4));
        Check.refused("end(least)", IllegalArgumentException.class, () -> ended(x, Integer.MIN_VALUE));
        Check.due("put(0) behind what was refused", 3, () -> x.put(0));
        Check.due("end(3) of three", 0, () -> ended(x, 3));
        Check.due("end(2)", 0, () -> ended(x, 2));
        Check.due("how many there are", 2, () -> x.put(0));
        Check.due("more behind the end", 6, () -> x.put(Check.four("(c d", 0)));
        Check.due("the last", 7, () -> x.put(')'));
        Check.due("read() of 'a (c d)'", 0, x::read);
        Check.due("rules of 'a (c d)'", 2, () -> x.sheet(0));
        Check.due("end(0)", 0, () -> ended(x, 0));
        Check.due("nothing is left", 0, () -> x.put(0));
        Check.due("the sheet stays", 2, () -> x.sheet(0));
    }

    private static long ended(RuleSheets x, int n) {
        x.end(n);
        return 0;
    }

    public static void main(String[] args) {
        newObject();
        order();
        signs();
        full();
        end();
        Check.finish();
    }
}
