import java.util.function.IntFunction;
import java.util.function.ToLongFunction;

/** Counts answers that are due, and lays tables from plain texts. */
final class Due {
    private int right;
    private int wrong;
    private String part = "";

    void part(String name) {
        part = name;
    }

    void is(String call, long got, long want) {
        if (got == want) {
            right++;
        } else {
            wrong++;
            if (wrong <= 40) {
                System.out.println(part + ": " + call + " answered " + got + ", due is " + want);
            }
        }
    }

    int looked() {
        return right + wrong;
    }

    void fail(String why) {
        is(why, 1, 0);
    }

    void yes(String call, boolean got) {
        is(call, got ? 1 : 0, 1);
    }

    void no(String call, boolean got) {
        is(call, got ? 1 : 0, 0);
    }

    /** A call that was refused, and the TROUBLE by which it was. */
    void refused(String call, LeanTable x, long got, int trouble) {
        is(call, got, -1);
        is(call + ", then trouble()", x.trouble(), trouble);
    }

    /** A call that needs a TABLE, on an object that has none. */
    void noTable(ToLongFunction<LeanTable> call) {
        LeanTable none = new LeanTable();
        refused("without a TABLE", none, call.applyAsLong(none), 1);
    }

    /** A call that is refused for each of these numbers, and for those that no bound of the document holds. */
    void refusedBy(int trouble, LeanTable x, IntFunction<Number> call, int... numbers) {
        for (int n : numbers) {
            refused("by " + n, x, call.apply(n).longValue(), trouble);
        }
        for (int n : Texts.WILD) {
            refused("by " + n, x, call.apply(n).longValue(), trouble);
        }
    }

    /** A call that isn't refused, and its answer. */
    void answered(String call, LeanTable x, long got, long want) {
        is(call, got, want);
        is(call + ", then trouble()", x.trouble(), 0);
    }

    void fault(String text, int number, int place) {
        LeanTable x = new LeanTable();
        is("table of '" + text + "'", tell(x, text), -1);
        is("trouble() of '" + text + "'", x.trouble(), 4);
        is("fault() of '" + text + "'", x.fault(), number);
        is("where() of '" + text + "'", x.where(), place);
        is("size(11) of '" + text + "'", x.size(11), 0);
    }

    /** The sign ^ stands ahead of the place at which the fault is due, and isn't part of the text. */
    void faultAt(int number, String marked) {
        fault(marked.replace("^", ""), number, marked.indexOf('^'));
    }

    void good(String text, int people) {
        LeanTable x = new LeanTable();
        is("table of '" + text + "'", tell(x, text), people);
        is("trouble() of '" + text + "'", x.trouble(), 0);
        is("fault() of '" + text + "'", x.fault(), 0);
        is("where() of '" + text + "'", x.where(), -1);
    }

    boolean throwsAt(LeanTable x, int i) {
        try {
            x.led(i);
            return false;
        } catch (java.util.NoSuchElementException e) {
            return true;
        }
    }

    /** Blanks fill the last twenty bytes. */
    static void put(LeanTable x, String text) {
        for (int i = 0; i < text.length(); i += 20) {
            int[] five = new int[5];
            for (int j = 0; j < 20; j++) {
                int b = i + j < text.length() ? text.charAt(i + j) : ' ';
                five[j / 4] = five[j / 4] << 8 | b;
            }
            x.feed(five[0], five[1], five[2], five[3], five[4]);
        }
    }

    static int tell(LeanTable x, String text) {
        put(x, text);
        return x.table(text.length());
    }

    static LeanTable lay(String text) {
        LeanTable x = new LeanTable();
        if (tell(x, text) < 0) {
            throw new IllegalStateException("fault " + x.fault() + " at " + x.where() + " in: " + text);
        }
        return x;
    }

    /** x of DOOMED behind the day on which it dies. */
    static LeanTable allDead() {
        LeanTable x = lay(Texts.DOOMED);
        x.day();
        return x;
    }

    void end(String test) {
        System.out.println(test + ": " + right + " answers as due, " + wrong + " not");
        if (wrong > 0) {
            System.exit(1);
        }
    }
}
