/** What the tests share: texts put into an object, answers held against those that are due. */
final class Check {
    static int wrong = 0;
    static int asked = 0;

    interface Call {
        long answer();
    }

    interface Ask {
        long of(RuleSheets x);
    }

    interface Maker {
        RuleSheets make();
    }

    private Check() {
    }

    static void due(String what, long want, Call call) {
        asked++;
        String got;
        try {
            got = Long.toString(call.answer());
        } catch (RuntimeException e) {
            got = e.getClass().getSimpleName();
        }
        if (!got.equals(Long.toString(want))) {
            fail(what + " answered " + got + ", due is " + want);
        }
    }

    static void refused(String what, Class<? extends RuntimeException> want, Call call) {
        asked++;
        String got;
        try {
            got = Long.toString(call.answer());
        } catch (RuntimeException e) {
            if (e.getClass() == want) {
                return;
            }
            got = e.getClass().getSimpleName();
        }
        fail(what + " answered " + got + ", due is " + want.getSimpleName());
    }

    static void same(String what, String want, String got) {
        asked++;
        if (!want.equals(got)) {
            fail(what + " is '" + got + "', due is '" + want + "'");
        }
    }

    static void holds(String what, boolean it) {
        asked++;
        if (!it) {
            fail(what);
        }
    }

    static void fail(String what) {
        wrong++;
        if (wrong <= 40) {
            System.out.println(what);
        }
    }

    /** Up to four signs from a place on, as put() takes them. */
    static int four(String text, int from) {
        int signs = 0;
        for (int k = 0; k < 4 && from + k < text.length(); k++) {
            signs |= text.charAt(from + k) << 8 * k;
        }
        return signs;
    }

    static void write(RuleSheets x, String text) {
        for (int k = 0; k < text.length(); k += 4) {
            x.put(four(text, k));
        }
    }

    static RuleSheets with(String text) {
        RuleSheets x = new RuleSheets();
        write(x, text);
        return x;
    }

    /** An object with a sheet that has no fault. */
    static RuleSheets reading(String text) {
        RuleSheets x = with(text);
        due("read of " + text, 0, x::read);
        return x;
    }

    static RuleSheets started(String text) {
        RuleSheets x = reading(text);
        x.start();
        return x;
    }

    static void fault(String text, int kind, int where) {
        RuleSheets x = with(text);
        due("read() of " + text, kind, x::read);
        due("fault() of " + text, where, x::fault);
    }

    /** A text that is a sheet without a fault. */
    static void well(String text) {
        fault(text, 0, -1);
    }

    /** A text that is no sheet; the fault is where | stands, which is left out. */
    static void noSheet(String marked) {
        fault(marked.replace("|", ""), 1, marked.indexOf('|'));
    }

    /** So many rules are read from a text without a fault. */
    static void rules(String text, int count) {
        due("rules of " + text, count, () -> reading(text).sheet(0));
    }

    /** A call is refused, and an object that has seen it answers in all as one that hasn't. */
    static void leaves(String what, Class<? extends RuntimeException> want, Maker maker, Ask call) {
        RuleSheets asked = maker.make();
        RuleSheets other = maker.make();
        refused(what, want, () -> call.of(asked));
        same("all behind " + what, Look.at(other), Look.at(asked));
    }

    /** One rule for each number below count: the atom of a name and that number. */
    static String facts(String name, int count) {
        StringBuilder out = new StringBuilder();
        for (int k = 0; k < count; k++) {
            out.append('(').append(name).append(' ').append(k).append(')');
        }
        return out.toString();
    }

    /** A text, asked for sign by sign up to its end. */
    static String text(RuleSheets x, int what, int i) {
        StringBuilder out = new StringBuilder();
        for (int sign = x.sign(what, i, 0); sign != 0; sign = x.sign(what, i, out.length())) {
            out.append((char) sign);
        }
        return out.toString();
    }

    static String repeat(String what, int times) {
        return what.repeat(times);
    }

    static void finish() {
        System.out.println(asked + " answers looked at, " + wrong + " wrong");
        System.exit(wrong == 0 && asked > 0 ? 0 : 1);
    }
}
