/** Counts answers that are due, and lays tables from plain texts. */
final class Due {
    private int right;
    private int wrong;
    private String part = "";

    void part(String name) {
        part = name;
    }

    void is(String call, long got, long want) {
        if (got == want) {
            right++;
        } else {
            wrong++;
            if (wrong <= 40) {
                System.out.println(part + ": " + call + " answered " + got + ", due is " + want);
            }
        }
    }

    void yes(String call, boolean got) {
        is(call, got ? 1 : 0, 1);
    }

    void no(String call, boolean got) {
        is(call, got ? 1 : 0, 0);
    }

    /** A call that was refused, and the TROUBLE by which it was. */
    void refused(String call, LeanTable x, long got, int trouble) {
        is(call, got, -1);
        is(call + ", then trouble()", x.trouble(), trouble);
    }

    void fault(String text, int number, int place) {
        LeanTable x = new LeanTable();
        is("table of '" + text + "'", tell(x, text), -1);
        is("trouble() of '" + text + "'", x.trouble(), 4);
        is("fault() of '" + text + "'", x.fault(), number);
        is("where() of '" + text + "'", x.where(), place);
        is("size(11) of '" + text + "'", x.size(11), 0);
    }

    void good(String text, int people) {
        LeanTable x = new LeanTable();
        is("table of '" + text + "'", tell(x, text), people);
        is("trouble() of '" + text + "'", x.trouble(), 0);
        is("fault() of '" + text + "'", x.fault(), 0);
        is("where() of '" + text + "'", x.where(), -1);
    }

    boolean throwsAt(LeanTable x, int i) {
        try {
            x.led(i);
            return false;
        } catch (java.util.NoSuchElementException e) {
            return true;
        }
    }

    /** Blanks fill the last twenty bytes. */
    static void put(LeanTable x, String text) {
        for (int i = 0; i < text.length(); i += 20) {
            int[] five = new int[5];
            for (int j = 0; j < 20; j++) {
                int b = i + j < text.length() ? text.charAt(i + j) : ' ';
                five[j / 4] = five[j / 4] << 8 | b;
            }
            x.feed(five[0], five[1], five[2], five[3], five[4]);
        }
    }

    static int tell(LeanTable x, String text) {
        put(x, text);
        return x.table(text.length());
    }

    static LeanTable lay(String text) {
        LeanTable x = new LeanTable();
        if (tell(x, text) < 0) {
            throw new IllegalStateException("fault " + x.fault() + " at " + x.where() + " in: " + text);
        }
        return x;
    }

    void end(String test) {
        System.out.println(test + ": " + right + " answers as due, " + wrong + " not");
        if (wrong > 0) {
            System.exit(1);
        }
    }
}
