/** What the tests share: a house to try, answers that are due, and ways to say texts and bytes shortly. */
final class Bench {
    private static final String[] NAMES = {"NUMBER", "NULL", "LOAD", "STORE", "FIELD", "SETFIELD", "ELEMENT",
        "SETELEMENT", "LENGTH", "NEW", "ROW", "CALL", "FAR", "SIGN", "MINUS", "NOT", "JUMP", "UNLESS", "ANSWER", "PRINT",
        "PUT", "GET", "RAISE", "GO", "PIN", "HERE", "SELF", "TWIN", "DROP", "SAME"};

    House x = new House();
    private int wrong = 0;
    private int asked = 0;

    void fresh() {
        usedFairly();
        x = new House();
    }

    /** What a test saw behind the 512th call of an object would be no promise. */
    private void usedFairly() {
        if (x.callsMade() > House.MOST_CALLS) {
            wrong++;
            System.out.println("a test made " + x.callsMade() + " calls of one object");
            new Throwable().printStackTrace(System.out);
        }
    }

    void due(String what, long got, long want) {
        asked++;
        if (got != want) {
            wrong++;
            System.out.println(what + " answered " + got + ", due is " + want);
        }
    }

    void due(String what, boolean got, boolean want) {
        due(what, got ? 1 : 0, want ? 1 : 0);
    }

    void due(String what, String got, String want) {
        asked++;
        if (!got.equals(want)) {
            wrong++;
            System.out.println(what + " answered\n  " + got + "\ndue is\n  " + want);
        }
    }

    void end() {
        usedFairly();
        System.out.println(asked + " answers, " + wrong + " of them not as due");
        if (wrong != 0 || asked == 0) {
            System.exit(1);
        }
    }

    // ---- the tape

    void feed(byte[] bytes) {
        for (int i = 0; i < bytes.length; i += 20) {
            int[] w = new int[5];
            for (int k = 0; k < 20; k++) {
                int b = i + k < bytes.length ? bytes[i + k] & 255 : 0;
                w[k / 4] |= b << 24 - 8 * (k % 4);
            }
            x.feed(w[0], w[1], w[2], w[3], w[4]);
        }
        x.back((20 - bytes.length % 20) % 20);
    }

    static byte[] bytesOf(String text) {
        byte[] bytes = new byte[text.length()];
        for (int i = 0; i < bytes.length; i++) {
            bytes[i] = (byte) text.charAt(i);
        }
        return bytes;
    }

    int read(String text) {
        feed(bytesOf(text));
        return x.read();
    }

    /** That a text has a fault, at a line. */
    void fault(String text, int fault, int line) {
        fresh();
        due("read of " + text, read(text), -(fault + 16 * line));
    }

    void fine(String text) {
        fresh();
        due("read of " + text, read(text), 0);
    }

    // ---- code

    /** Each instruction of a program as NAME a b, without what is 0 at the end. */
    String code(int p) {
        StringBuilder all = new StringBuilder();
        for (int k = 0; k < x.program(p, 2); k++) {
            int a = x.instruction(p, k, 1);
            int b = x.instruction(p, k, 2);
            all.append(k == 0 ? "" : "; ").append(NAMES[x.instruction(p, k, 0)]);
            if (a != 0 || b != 0) {
                all.append(' ').append(a);
            }
            if (b != 0) {
                all.append(' ').append(b);
            }
        }
        return all.toString();
    }

    String column(int p, int what) {
        StringBuilder all = new StringBuilder();
        for (int k = 0; k < x.program(p, 2); k++) {
            all.append(k == 0 ? "" : " ").append(x.instruction(p, k, what));
        }
        return all.toString();
    }

    /** That a text becomes this code. */
    void code(String text, String want) {
        fresh();
        due("read of " + text, read(text), 0);
        due("code of " + text, code(0), want);
    }

    // ---- calls that may throw: 1 and 2 million below are the exceptions

    static final int ILLEGAL_ARGUMENT = -1000001;
    static final int ILLEGAL_STATE = -1000002;

    int start(int p, int h) {
        try {
            return x.start(p, h);
        } catch (IllegalArgumentException e) {
            return ILLEGAL_ARGUMENT;
        } catch (IllegalStateException e) {
            return ILLEGAL_STATE;
        }
    }

    int step(int h, int n) {
        try {
            return x.step(h, n);
        } catch (IllegalArgumentException e) {
            return ILLEGAL_ARGUMENT;
        } catch (IllegalStateException e) {
            return ILLEGAL_STATE;
        }
    }

    int come(int h) {
        try {
            return x.come(h);
        } catch (IllegalArgumentException e) {
            return ILLEGAL_ARGUMENT;
        } catch (IllegalStateException e) {
            return ILLEGAL_STATE;
        }
    }

    // ---- runs

    /** A fresh house whose program 0 is this text, given to all hosts, with traveller 0 of it at host 0. */
    void begin(String text) {
        fresh();
        int p = read(text);
        due("read of " + text, p, 0);
        for (int h = 0; h < 5; h++) {
            x.give(h, 0);
        }
        due("start", start(0, 0), 0);
    }

    /** That main, run to its end at host 0, answers this and prints these. */
    void answers(String text, int want, int... printed) {
        begin(text);
        for (int i = 0; i < 20; i++) {
            step(0, 500);
        }
        ended(text, 7, want, printed);
    }

    void fails(String text, int want, int... printed) {
        begin(text);
        for (int i = 0; i < 20; i++) {
            step(0, 500);
        }
        ended(text, 8, want, printed);
    }

    private void ended(String text, int state, int want, int... printed) {
        due("state of " + text, x.traveller(0, 0, 0), state);
        due("end of " + text, x.traveller(0, 0, 6), want);
        due("lines of " + text, x.traveller(0, 0, 4), printed.length);
        for (int i = 0; i < printed.length; i++) {
            due("line " + i + " of " + text, x.line(0, 0, i), printed[i]);
        }
    }

    private static final int[] WIDTHS = {5, 4, 4, 5, 3, 3, 3, 3, 0, 5};

    /** MESSAGE i from h to g, all its numbers (no CALL, which has as many as its method takes); - if there is none. */
    String said(int h, int g, int i) {
        int sort = x.message(h, g, i, 0);
        if (sort < 0) {
            return "-";
        }
        StringBuilder all = new StringBuilder();
        for (int what = 0; what < WIDTHS[sort]; what++) {
            all.append(what == 0 ? "" : " ").append(x.message(h, g, i, what));
        }
        due("no more numbers", x.message(h, g, i, WIDTHS[sort]), -1);
        return all.toString();
    }

    /** The first message from h to g that is of this sort and move overtakes all others and comes: whether there was one. */
    boolean only(int h, int g, int sort, int move) {
        for (int i = 0; i < 40 && x.message(h, g, i, 0) >= 0; i++) {
            if (x.message(h, g, i, 0) == sort && x.message(h, g, i, 2) == move) {
                for (int k = 0; k < i; k++) {
                    x.trouble(h, g, 2);
                }
                return x.pass(h, g) == sort;
            }
        }
        return false;
    }

    /** All messages from h to g come, in their order: their sorts. */
    String passAll(int h, int g) {
        StringBuilder all = new StringBuilder();
        for (int i = 0; i < 100; i++) {
            int sort = x.pass(h, g);
            if (sort < 0) {
                break;
            }
            all.append(sort);
        }
        return all.toString();
    }

    /** Messages between two hosts come until there are none. */
    void settle(int h, int g) {
        boolean more = true;
        for (int i = 0; i < 10 && more; i++) {
            boolean there = !passAll(h, g).isEmpty();
            more = !passAll(g, h).isEmpty() || there;
        }
    }

    byte[] packed(int t, int h) {
        byte[] bytes = new byte[Math.max(0, x.pack(t, h))];
        for (int i = 0; i < bytes.length; i++) {
            bytes[i] = (byte) x.out(i);
        }
        return bytes;
    }

    static long sum(byte[] bytes, int count) {
        long s = 0;
        for (int i = 0; i < count; i++) {
            s = Long.rotateLeft(s ^ (bytes[i] & 255), 11) * 0x9E3779B97F4A7C15L;
        }
        return s;
    }
}
