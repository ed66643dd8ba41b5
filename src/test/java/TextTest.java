/** Promises 1 (a new object), 2 (put) and 3 (end). */
public final class TextTest {
    private TextTest() {
    }

    /** "An empty text; nothing is read." and "NONE = -1" */
    private static void newObject() {
        RuleSheets x = new RuleSheets();
        Check.due("NONE", -1, () -> RuleSheets.NONE);
        Check.due("fault() of a new object", -1, x::fault);
        Check.refused("sheet(0) of a new object", IllegalStateException.class, () -> x.sheet(0));
        Check.refused("sheet(7) of a new object", IllegalStateException.class, () -> x.sheet(7));
        Check.refused("start() of a new object", IllegalStateException.class, x::start);
        Check.refused("moves(-1) of a new object", IllegalStateException.class, () -> x.moves(-1));
        Check.refused("terminal() of a new object", IllegalStateException.class, () -> x.terminal() ? 1 : 0);
        Check.refused("goal(9) of a new object", IllegalStateException.class, () -> x.goal(9));
        Check.refused("play(-1) of a new object", IllegalStateException.class, () -> x.play(-1));
        Check.refused("sign(9,-1,-1) of a new object", IllegalStateException.class, () -> x.sign(9, -1, -1));
        Check.refused("explore() of a new object", IllegalStateException.class, x::explore);
        Check.refused("defect(9) of a new object", IllegalStateException.class, () -> x.defect(9));
        Check.refused("state(-1,9) of a new object", IllegalStateException.class, () -> x.state(-1, 9));
        Check.refused("next(-1,-1) of a new object", IllegalStateException.class, () -> x.next(-1, -1));
        Check.refused("value(-1) of a new object", IllegalStateException.class, () -> x.value(-1));
        Check.refused("best(-1) of a new object", IllegalStateException.class, () -> x.best(-1));
        Check.due("signs of a new object", 0, () -> x.put(0));
        Check.refused("end(1) of a new object", IllegalArgumentException.class, () -> ended(x, 1));
        Check.due("end(0) of a new object", 0, () -> ended(x, 0));
        Check.due("read() of an empty text", 1, x::read);
        Check.due("fault() of an empty text", 0, x::fault);
    }

    /** "Four more signs, the lowest byte first (0 is left out): how many there are." */
    private static void order() {
        RuleSheets x = new RuleSheets();
        Check.due("put(0)", 0, () -> x.put(0));
        Check.due("put of a sign and blanks left out", 1, () -> x.put('a' << 16));
        Check.due("put of two", 3, () -> x.put('b' | 'c' << 24));
        Check.due("put of four", 7, () -> x.put(Check.four("d e ", 0)));
        x.read();
        x.start();
        Check.due("rules of 'abcd e '", 2, () -> x.sheet(0));
        RuleSheets y = new RuleSheets();
        Check.write(y, "(role abcd)");
        y.read();
        Check.same("role of (role abcd)", "abcd", Check.text(y, 5, 0));
    }

    /** "IllegalArgumentException if a byte is none of those": each byte in each of the four places. */
    private static void signs() {
        for (int sign = 0; sign < 256; sign++) {
            for (int shift = 0; shift < 32; shift += 8) {
                RuleSheets x = new RuleSheets();
                int signs = sign << shift;
                boolean well = sign == 0 || sign == 10 || sign >= 32 && sign <= 126;
                if (well) {
                    Check.due("put(" + signs + ")", sign == 0 ? 0 : 1, () -> x.put(signs));
                } else {
                    int among = signs | 'a' << (shift + 8) % 32;
                    Check.refused("put(" + among + ")", IllegalArgumentException.class, () -> x.put(among));
                    Check.due("put(0) behind one that was refused", 0, () -> x.put(0));
                }
            }
        }
    }

    /** The first and the last sign of each kind, and those next to them; a wrong one among three that are well. */
    private static void edgesOfSigns() {
        for (int sign : new int[] {1, 9, 11, 13, 31, 127, 128, 138, 255}) {
            for (int shift = 0; shift < 32; shift += 8) {
                int signs = Check.four("(p a", 0) & ~(255 << shift) | sign << shift;
                Check.leaves("put with " + sign + " in place " + shift / 8, IllegalArgumentException.class, () -> Check.started("(role r)(init a)"), x -> x.put(signs));
            }
        }
        for (int sign : new int[] {10, 32, 33, 126}) {
            Check.due("put of four times " + sign, 4, () -> new RuleSheets().put(sign * 0x01010101));
        }
        Check.due("put of nothing", 0, () -> new RuleSheets().put(0));
        Check.due("put of three and a gap", 3, () -> new RuleSheets().put('a' | 'b' << 16 | 'c' << 24));
        Check.refused("put(-1)", IllegalArgumentException.class, () -> new RuleSheets().put(-1));
        Check.refused("put of the least number", IllegalArgumentException.class, () -> new RuleSheets().put(Integer.MIN_VALUE));
    }

    /** An object with so many signs, of which the last ones are known. */
    private static RuleSheets filled(int signs) {
        return Check.with("(p a)" + Check.repeat(" ", signs - 5));
    }

    /** "UnsupportedOperationException if there would be more than 2000": one to four signs at each length next to that. */
    private static void most() {
        for (int signs = 1995; signs <= 2000; signs++) {
            int before = signs;
            for (int more = 0; more <= 4; more++) {
                int four = Check.four("bcde".substring(0, more), 0);
                String what = "put of " + more + " at " + signs;
                if (signs + more <= 2000) {
                    Check.due(what, signs + more, () -> filled(before).put(four));
                } else {
                    RuleSheets x = filled(before);
                    Check.refused(what, UnsupportedOperationException.class, () -> x.put(four));
                    Check.due("signs behind " + what, before, () -> x.put(0));
                    Check.due("read() behind " + what, 0, x::read);
                    Check.due("rules behind " + what, 1, () -> x.sheet(0));
                }
            }
        }
        Check.refused("put of a wrong sign where there is no room", IllegalArgumentException.class, () -> filled(2000).put(Check.four("abc", 0) | 127 << 24));
        Check.refused("put of a wrong sign where there is room for one", IllegalArgumentException.class, () -> filled(1999).put(31 | 'a' << 8));
        RuleSheets x = filled(2000);
        x.end(1998);
        Check.due("put of two behind an end", 2000, () -> x.put('b' << 8 | 'c' << 24));
    }

    /** A text that is full, up to its last sign, is read like any other. */
    private static void full() {
        RuleSheets x = new RuleSheets();
        for (int k = 0; k < 499; k++) {
            x.put(Check.four("    ", 0));
        }
        Check.due("put up to 1999", 1999, () -> x.put(Check.four("  \n", 0)));
        Check.refused("put of two at 1999", UnsupportedOperationException.class, () -> x.put('a' | 'b' << 8));
        Check.refused("put of a wrong one and others at 1999", IllegalArgumentException.class, () -> x.put(Check.four("abc", 0) | 7 << 24));
        Check.due("put(0) at 1999", 1999, () -> x.put(0));
        Check.due("put of the last", 2000, () -> x.put('a' << 24));
        Check.due("put(0) at 2000", 2000, () -> x.put(0));
        Check.refused("put of one at 2000", UnsupportedOperationException.class, () -> x.put('a'));
        Check.refused("put of a wrong one at 2000", IllegalArgumentException.class, () -> x.put(127 << 8 | 'a'));
        Check.due("read() of a full text", 0, x::read);
        x.end(1999);
        Check.due("read() of blanks", 1, x::read);
        Check.due("fault() of blanks", 1999, x::fault);
    }

    /** "IllegalArgumentException if n is below 0 or above how many there are" */
    private static void edgesOfEnd() {
        for (int n : new int[] {-1, Integer.MIN_VALUE, 17, 2000, 2001, Integer.MAX_VALUE}) {
            Check.leaves("end(" + n + ") of 16 signs", IllegalArgumentException.class, () -> Check.started("(role r)(init a)"), x -> ended(x, n));
        }
        RuleSheets x = filled(2000);
        Check.refused("end(2001) of 2000", IllegalArgumentException.class, () -> ended(x, 2001));
        Check.due("end(2000) of 2000", 0, () -> ended(x, 2000));
        Check.due("nothing has gone", 2000, () -> x.put(0));
        Check.due("end(1999)", 0, () -> ended(x, 1999));
        Check.refused("end(2000) of 1999", IllegalArgumentException.class, () -> ended(x, 2000));
        Check.due("end(1)", 0, () -> ended(x, 1));
        Check.due("one sign is left", 1, () -> x.put(0));
        Check.due("end(0)", 0, () -> ended(x, 0));
        Check.refused("end(1) of none", IllegalArgumentException.class, () -> ended(x, 1));
        Check.due("end(0) of none", 0, () -> ended(x, 0));
    }

    /** "The text has its first n signs", and what was behind them is gone for good. */
    private static void firstSigns() {
        String text = "(role ab)cd";
        for (int n = 0; n <= text.length(); n++) {
            int signs = n;
            RuleSheets x = Check.with(text);
            Check.due("end(" + n + ")", 0, () -> ended(x, signs));
            Check.due("signs behind end(" + n + ")", n, () -> x.put(0));
            Check.due("read() behind end(" + n + ")", n >= 9 ? 0 : 1, x::read);
            Check.due("fault() behind end(" + n + ")", n >= 9 ? -1 : n, x::fault);
        }
        RuleSheets x = Check.with(text);
        x.end(7);
        Check.due("put behind end(7)", 9, () -> x.put('z' | ')' << 8));
        Check.due("read() of it", 0, x::read);
        Check.same("its role", "az", Check.text(x, 5, 0));
    }

    /** "An object is used for at most 512 calls": up to the last of them all is as it should be. */
    private static void lastCall() {
        String game = "(role a)(role b)(init s)(legal a m)(legal b m)(<= terminal (true t))(<= (next t) (does a m))(goal a 1)(goal b 99)";
        RuleSheets x = Check.with(game + Check.repeat(" ", 2000 - game.length()));
        Check.due("call 501", 0, x::read);
        Check.due("call 502", -1, x::fault);
        Check.due("call 503", 9, () -> x.sheet(0));
        Check.due("call 504", 1, x::start);
        Check.due("call 505", 1, () -> x.moves(1));
        Check.due("call 506", 0, () -> x.terminal() ? 1 : 0);
        Check.due("call 507", 1, () -> x.play(0));
        Check.due("call 508", 't', () -> x.sign(0, 0, 0));
        Check.due("call 509", 2, x::explore);
        Check.due("call 510", 0, () -> x.defect(0));
        Check.due("call 511", 1, () -> x.value(0));
        Check.due("call 512", 0, () -> x.best(0));
    }

    /** "The text has its first n signs": more can be put behind them, and the sheet stays. */
    private static void end() {
        RuleSheets x = Check.with("a b");
        Check.refused("end(-1)", IllegalArgumentException.class, () -> ended(x, -1));
        Check.refused("end(4) of three", IllegalArgumentException.class, () -> ended(x, 4));
        Check.refused("end(least)", IllegalArgumentException.class, () -> ended(x, Integer.MIN_VALUE));
        Check.due("put(0) behind what was refused", 3, () -> x.put(0));
        Check.due("end(3) of three", 0, () -> ended(x, 3));
        Check.due("end(2)", 0, () -> ended(x, 2));
        Check.due("how many there are", 2, () -> x.put(0));
        Check.due("more behind the end", 6, () -> x.put(Check.four("(c d", 0)));
        Check.due("the last", 7, () -> x.put(')'));
        Check.due("read() of 'a (c d)'", 0, x::read);
        Check.due("rules of 'a (c d)'", 2, () -> x.sheet(0));
        Check.due("end(0)", 0, () -> ended(x, 0));
        Check.due("nothing is left", 0, () -> x.put(0));
        Check.due("the sheet stays", 2, () -> x.sheet(0));
    }

    private static long ended(RuleSheets x, int n) {
        x.end(n);
        return 0;
    }

    public static void main(String[] args) {
        newObject();
        order();
        signs();
        edgesOfSigns();
        most();
        full();
        end();
        edgesOfEnd();
        firstSigns();
        lastCall();
        Check.finish();
    }
}
