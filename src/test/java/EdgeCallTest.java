/**
 * Each call with what it is given at the edges of what there is, and on both sides of them; and that a call that throws,
 * answers NONE or false changes nothing.
 */
public final class EdgeCallTest {
    private static final int MOST = Integer.MAX_VALUE;
    private static final int LEAST = Integer.MIN_VALUE;
    private static final int[] NO_HOSTS = {LEAST, -2, -1, 5, 6, MOST};

    public static void main(String[] args) {
        Bench b = new Bench();
        backs(b);
        feeds(b);
        reads(b);
        programs(b);
        gives(b);
        starts(b);
        steps(b);
        namedFirst(b);
        counts(b);
        hosts(b);
        travellers(b);
        states(b);
        lines(b);
        frames(b);
        values(b);
        cells(b);
        messages(b);
        refusedCallsChangeNothing(b);
        questionsChangeNothing(b);
        fiveHundredAndTwelve(b);
        b.end();
    }

    /** Promise 3: "NONE, and none go, if it has less, or n is below 0." */
    private static void backs(Bench b) {
        b.fresh();
        b.due("back of nothing", b.x.back(0), 0);
        b.due("back of nothing", b.x.back(1), -1);
        b.x.feed(1, 2, 3, 4, 5);
        for (int n : new int[] {LEAST, -1, 21, 22, MOST}) {
            b.due("back " + n, b.x.back(n), -1);
            b.due("none go", b.x.count(0), 20);
        }
        b.due("back 0", b.x.back(0), 20);
        b.due("back 1", b.x.back(1), 19);
        b.due("back 20", b.x.back(20), -1);
        b.due("back 19", b.x.back(19), 0);
    }

    /** Promise 2: "Twenty bytes come behind the tape, the highest of each int first". */
    private static void feeds(Bench b) {
        b.fresh();
        // main{return 1;} with ints whose highest bit is set in the comment behind it
        b.due("feed", b.x.feed(0x6D61696E, 0x7B726574, 0x75726E20, 0x313B7D2F, 0x2F80FF81), 20);
        b.due("feed", b.x.feed(-1, 0x80000000, 0x7FFFFFFF, 0x00FF00FF, 0x8000000A), 40);
        b.due("read", b.x.read(), 0);
        b.due("its code", b.code(0), "NUMBER 1; ANSWER; NUMBER; ANSWER");
        byte[] text = {0x6D, 0x61, 0x69, 0x6E, 0x7B, 0x72, 0x65, 0x74, 0x75, 0x72, 0x6E, 0x20, 0x31, 0x3B, 0x7D, 0x2F, 0x2F, -128, -1, -127,
            -1, -1, -1, -1, -128, 0, 0, 0, 127, -1, -1, -1, 0, -1, 0, -1, -128, 0, 0, 10};
        b.due("its sum", b.x.program(0, 3), Bench.sum(text, text.length) & 0xFFFF);
        b.fresh();
        for (int i = 1; i <= 200; i++) {
            b.due("feed", b.x.feed(0, 0, 0, 0, 0), 20 * i);
        }
        b.due("no more", b.x.feed(0, 0, 0, 0, 0), -1);
        b.due("nothing comes", b.x.count(0), 4000);
        b.x.back(1);
        b.due("no more", b.x.feed(0, 0, 0, 0, 0), -1);
        b.x.back(18);
        b.due("no more", b.x.feed(0, 0, 0, 0, 0), -1);
        b.x.back(1);
        b.due("twenty less", b.x.feed(0, 0, 0, 0, 0), 4000);
    }

    /** Promise 4: "the tape is empty then: its number (from 0 on); or, below 0, -(its fault + 16 * its line), and there is none." */
    private static void reads(Bench b) {
        b.fresh();
        b.due("nothing", b.x.read(), -(2 + 16));
        b.due("a fault", b.read("main{\nx;}"), -(5 + 32));
        b.due("the tape", b.x.count(0), 0);
        b.due("there is none", b.x.count(1), 0);
        b.due("from 0 on", b.read("main{}"), 0);
        b.due("the tape", b.x.count(0), 0);
        b.due("a fault", b.read("main{"), -(2 + 16));
        b.due("the next", b.read("main{}"), 1);
        b.due("two", b.x.count(1), 2);
        b.due("nothing", b.x.read(), -(2 + 16));
    }

    /** Promises 5, 6, 7: "NONE if there is none such." */
    private static void programs(Bench b) {
        b.fresh();
        b.due("none yet", b.x.program(0, 0), -1);
        b.due("none yet", b.x.method(0, 0, 0), -1);
        b.due("none yet", b.x.instruction(0, 0, 0), -1);
        b.read("class A{}class C{int m(int k){return k;}}main{}");
        b.read("main{print 1;}");
        for (int p : new int[] {LEAST, -1, 2, 3, 8, MOST}) {
            for (int what = 0; what < 4; what++) {
                b.due("program " + p, b.x.program(p, what), -1);
            }
            b.due("method of " + p, b.x.method(p, 0, 2), -1);
            b.due("instruction of " + p, b.x.instruction(p, 0, 0), -1);
        }
        for (int what : new int[] {LEAST, -1, 4, 5, MOST}) {
            b.due("program's " + what, b.x.program(0, what), -1);
        }
        for (int what : new int[] {LEAST, -1, 5, 6, MOST}) {
            b.due("method's " + what, b.x.method(0, 0, what), -1);
            b.due("instruction's " + what, b.x.instruction(0, 0, what), -1);
        }
        int[][] sizes = {{2, 2, 6}, {0, 1, 4}};
        for (int p = 0; p < 2; p++) {
            for (int what = 0; what < 3; what++) {
                b.due("program's " + what, b.x.program(p, what), sizes[p][what]);
            }
            for (int m : new int[] {LEAST, -1, sizes[p][1], sizes[p][1] + 1, 40, MOST}) {
                b.due("method " + m, b.x.method(p, m, 2), -1);
            }
            for (int k : new int[] {LEAST, -1, sizes[p][2], sizes[p][2] + 1, 1200, MOST}) {
                b.due("instruction " + k, b.x.instruction(p, k, 0), -1);
            }
            b.due("the last", b.x.instruction(p, sizes[p][2] - 1, 0), 18);
        }
        b.due("main's class", b.x.method(0, 1, 0), -1);
        b.due("m's class", b.x.method(0, 0, 0), 1);
        b.due("no HANDLER", b.x.instruction(0, 0, 3), -1);
        b.due("no way", b.x.instruction(0, 2, 4), -1);
    }

    /** Promise 8: "false if there is no such one, it is DOWN or has it." */
    private static void gives(Bench b) {
        b.fresh();
        b.due("no such program", b.x.give(0, 0), false);
        for (int p = 0; p < 8; p++) {
            b.read("main{}");
        }
        for (int h : NO_HOSTS) {
            b.due("no such host", b.x.give(h, 0), false);
        }
        for (int p : new int[] {LEAST, -1, 8, 9, 32, MOST}) {
            b.due("no such program", b.x.give(0, p), false);
        }
        b.due("not kept", b.x.host(0, 4), 0);
        int bits = 0;
        for (int p : new int[] {7, 0, 3}) {
            b.due("give", b.x.give(4, p), true);
            b.due("has it", b.x.give(4, p), false);
            bits |= 1 << p;
            b.due("bits", b.x.host(4, 5), bits);
        }
        b.due("kept", b.x.host(4, 4), 3);
        b.x.power(4, 1);
        b.due("DOWN", b.x.give(4, 1), false);
        b.due("bits", b.x.host(4, 5), bits);
        b.x.power(4, 2);
        b.due("bits", b.x.host(4, 5), bits);
        b.due("give", b.x.give(4, 1), true);
    }

    /** Promise 9. */
    private static void starts(Bench b) {
        b.fresh();
        b.due("no program", b.start(0, 0), Bench.ILLEGAL_ARGUMENT);
        b.read("main{while(true)1;}");
        b.read("main{return 1;}");
        for (int h = 0; h < 5; h++) {
            b.x.give(h, 0);
        }
        for (int h : NO_HOSTS) {
            b.due("no such host", b.start(0, h), Bench.ILLEGAL_ARGUMENT);
        }
        for (int p : new int[] {LEAST, -1, 2, 8, MOST}) {
            b.due("no such program", b.start(p, 0), Bench.ILLEGAL_ARGUMENT);
        }
        b.due("has not the program", b.start(1, 0), Bench.ILLEGAL_STATE);
        b.due("nobody", b.x.count(2), 0);
        b.due("not kept", b.x.host(0, 4), 1);
        for (int h = 0; h < 5; h++) {
            b.due("start", b.start(0, h), h);
            b.due("at main", b.x.frame(h, h, 0, 1), 0);
            b.due("ACTING", b.x.traveller(h, h, 0), 0);
            b.due("no steps", b.x.traveller(h, h, 1), 0);
        }
        for (int i = 0; i < 7; i++) {
            b.due("start", b.start(0, 2), 5 + i);
        }
        b.due("has eight", b.start(0, 2), Bench.ILLEGAL_STATE);
        b.due("another has not", b.start(0, 3), 12);
        b.x.power(3, 1);
        b.due("DOWN", b.start(0, 3), Bench.ILLEGAL_STATE);
        b.x.power(3, 2);
        b.due("put by", b.x.host(3, 1), 2);
        b.due("UP", b.start(0, 3), 13);
    }

    /** Promise 10: "no such host, or n is not 0 .. 500". */
    private static void steps(Bench b) {
        b.begin("main{while(true)1;}");
        for (int n : new int[] {LEAST, -1, 501, 502, MOST}) {
            b.due("step " + n, b.step(0, n), Bench.ILLEGAL_ARGUMENT);
        }
        for (int h : NO_HOSTS) {
            b.due("host " + h, b.step(h, 1), Bench.ILLEGAL_ARGUMENT);
        }
        b.due("no steps", b.x.traveller(0, 0, 1), 0);
        int sum = 0;
        for (int n : new int[] {0, 1, 2, 499, 500}) {
            b.due("step " + n, b.step(0, n), n);
            sum += n;
            b.due("steps", b.x.traveller(0, 0, 1), sum);
        }
        b.due("nobody there", b.step(4, 500), 0);
        b.x.power(0, 1);
        b.due("DOWN", b.step(0, 0), Bench.ILLEGAL_STATE);
        b.due("DOWN", b.step(0, 500), Bench.ILLEGAL_STATE);
    }

    /** "Of several exceptions that one goes which the call names first." */
    private static void namedFirst(Bench b) {
        b.fresh();
        b.read("main{}");
        b.x.power(1, 1);
        b.due("no program, DOWN", b.start(1, 1), Bench.ILLEGAL_ARGUMENT);
        b.due("no host, not given", b.start(0, 5), Bench.ILLEGAL_ARGUMENT);
        b.due("no program, no host", b.start(-1, -1), Bench.ILLEGAL_ARGUMENT);
        b.due("DOWN, not given", b.start(0, 1), Bench.ILLEGAL_STATE);
        b.due("n, DOWN", b.step(1, 501), Bench.ILLEGAL_ARGUMENT);
        b.due("n, DOWN", b.step(1, -1), Bench.ILLEGAL_ARGUMENT);
        b.due("DOWN", b.step(1, 500), Bench.ILLEGAL_STATE);
        b.due("DOWN", b.come(1), Bench.ILLEGAL_STATE);
        b.due("no host", b.come(5), Bench.ILLEGAL_ARGUMENT);
    }

    /** Promise 16. */
    private static void counts(Bench b) {
        b.fresh();
        for (int what : new int[] {LEAST, -1, 6, 7, MOST}) {
            b.due("count " + what, b.x.count(what), -1);
        }
        b.begin("main{go 1;while(true)1;}");
        b.step(0, 9);
        b.x.feed(0, 0, 0, 0, 0);
        b.x.pack(0, 0);
        b.x.trouble(0, 1, 1);
        b.x.trouble(0, 1, 0);
        b.x.tick(0);
        int[] want = {20, 1, 1, 2, 1, b.x.pack(0, 0)};
        for (int what = 0; what < want.length; what++) {
            b.due("count " + what, b.x.count(what), want[what]);
        }
    }

    /** Promises 17, 18, 24. */
    private static void hosts(Bench b) {
        b.begin("main{put 7,8;while(true)1;}");
        b.start(0, 0);
        b.step(0, 9);
        int[] want = {1, 2, 1, 0, 3, 1, 0};
        for (int what = 0; what < want.length; what++) {
            b.due("host 0, " + what, b.x.host(0, what), want[what]);
        }
        for (int what : new int[] {LEAST, -1, 7, 8, MOST}) {
            b.due("host 0, " + what, b.x.host(0, what), -1);
        }
        for (int h : NO_HOSTS) {
            for (int what = 0; what < 7; what++) {
                b.due("host " + h, b.x.host(h, what), -1);
            }
            b.due("at " + h, b.x.at(h, 0), -1);
            b.due("board " + h, b.x.board(h, 7), 0);
        }
        for (int i : new int[] {LEAST, -1, 2, 3, 30, MOST}) {
            b.due("at " + i, b.x.at(0, i), -1);
        }
        b.due("at 0", b.x.at(0, 0), 0);
        b.due("at 1", b.x.at(0, 1), 1);
        b.due("another host", b.x.at(1, 0), -1);
        b.due("board", b.x.board(0, 7), 8);
        b.due("no such key", b.x.board(0, 6), 0);
        b.due("another host", b.x.board(1, 7), 0);
        // of a DOWN one: what was put by; 4 goes on
        b.x.power(0, 1);
        int[] down = {0, 2, 0, 0, 3, 1, 0};
        for (int what = 0; what < down.length; what++) {
            b.due("DOWN host 0, " + what, b.x.host(0, what), down[what]);
        }
        b.due("board of a DOWN one", b.x.board(0, 7), 0);
        b.x.power(0, 2);
        b.x.power(0, 0);
        b.due("4 goes on", b.x.host(0, 4), 4);
    }

    /** Promise 19: "NONE if it is not there, or for another what." */
    private static void travellers(Bench b) {
        b.begin("main{while(true)1;}");
        for (int what : new int[] {LEAST, -1, 11, 12, MOST}) {
            b.due("traveller's " + what, b.x.traveller(0, 0, what), -1);
        }
        for (int t : new int[] {LEAST, -1, 1, 2, 29, 30, MOST}) {
            for (int what = 0; what < 11; what++) {
                b.due("traveller " + t, b.x.traveller(t, 0, what), -1);
            }
        }
        for (int h : NO_HOSTS) {
            b.due("host " + h, b.x.traveller(0, h, 0), -1);
        }
        b.due("not there", b.x.traveller(0, 1, 0), -1);
        b.due("not there", b.x.traveller(0, 4, 9), -1);
    }

    private static void whole(Bench b, String what, int h, int... want) {
        for (int i = 0; i < want.length; i++) {
            if (want[i] != ANY) {
                b.due(what + " " + i, b.x.traveller(0, h, i), want[i]);
            }
        }
    }

    private static final int ANY = -77;

    /** Promise 19 in each STATE: "Of GONE and COMING ones 1, 3 to 6, 10 are 0." */
    private static void states(Bench b) {
        b.begin("class C{int v;int m(int k){return k;}}main{C c=new C;far C f=pin c;print 5;print f.m(1);go 1;int i=f.m(2);go 3;return i;}");
        whole(b, "new", 0, 0, 0, 0, 0, 0, 1, 0, -1, 0, 0, 0);
        b.step(0, 50);
        int steps = b.x.traveller(0, 0, 1);
        whole(b, "OFFERED", 0, 1, steps, 1, 0, 2, 1, 0, 1, 0, 0, 1);
        b.x.pass(0, 1);
        whole(b, "COMING", 1, 4, 0, 1, 0, 0, 0, 0, 0, 0, 0, 0);
        b.x.pass(1, 0);
        whole(b, "SENT", 0, 2, steps, 1, 0, 2, 1, 0, 1, 0, 0, 1);
        b.x.pass(0, 1);
        whole(b, "HERE WHOLE", 1, 5, steps, 1, 0, 2, 1, 0, 0, 0, 0, 1);
        b.x.pass(1, 0);
        whole(b, "GONE", 0, 3, 0, 1, 0, 0, 0, 0, 1, 0, 0, 0);
        b.due("GONE: no frame", b.x.frame(0, 0, 0, 0), -1);
        b.due("GONE: no LINE", b.x.line(0, 0, 0), 0);
        b.due("GONE: no OBJECT", b.x.cell(0, 0, 0, -2), 0);
        b.due("GONE: no value", b.x.value(0, 0, 0, 0), 0);
        b.x.pass(0, 1);
        whole(b, "ACTING", 1, 0, steps, 1, 0, 2, 1, 0, -1, 0, 0, 1);
        b.x.pass(1, 0);
        whole(b, "no more", 0, -1, -1, -1, -1, -1, -1, -1, -1, -1, -1, -1);
        b.step(1, 50);
        whole(b, "WAITING", 1, 6, steps + 4, 1, 1, 2, 1, 0, -1, 0, 0, 1);
        b.settle(0, 1);
        b.step(1, 50);
        b.x.pass(1, 3);
        b.x.pass(3, 1);
        b.x.pass(1, 3);
        b.x.pass(3, 1);
        whole(b, "GONE with CALLS", 1, 3, 0, 2, 0, 0, 0, 0, 3, 0, 0, 0);
        whole(b, "HERE WHOLE with CALLS", 3, 5, ANY, 2, 1, 2, 1, 0, 1, 0, 0, 1);
        b.settle(1, 3);
        b.due("start where it was", b.start(0, 1), 1);
        b.due("without CALLS", b.x.traveller(1, 1, 3), 0);
        whole(b, "at 3", 3, 0, ANY, 2, 1, 2, 1, 0, -1, 0, 0, 1);
        b.step(3, 50);
        whole(b, "ENDED", 3, 7, ANY, 2, 1, 2, ANY, 2, -1, 0, 0, ANY);
        b.begin("main{print 4;raise -9;}");
        b.step(0, 9);
        whole(b, "FAILED", 0, 8, 5, 0, 0, 1, ANY, -9, -1, 0, 0, ANY);
        // its program, in each STATE
        b.fresh();
        for (int k = 0; k < 8; k++) {
            b.read("main{if(self==" + k + ")go 1;if(self==9)raise 1;return " + k + ";}");
            b.x.give(0, k);
            b.x.give(1, k);
            b.due("start", b.start(k, 0), k);
            b.due("its program", b.x.traveller(k, 0, 9), k);
        }
        b.step(0, 20);
        for (int k = 0; k < 8; k += 7) {
            b.due("OFFERED", b.x.traveller(k, 0, 9), k);
        }
        b.passAll(0, 1);
        for (int k = 0; k < 8; k += 7) {
            b.due("COMING", b.x.traveller(k, 1, 9), k);
        }
        b.passAll(1, 0);
        b.passAll(0, 1);
        for (int k = 0; k < 8; k += 7) {
            b.due("HERE WHOLE", b.x.traveller(k, 1, 9), k);
        }
        b.passAll(1, 0);
        for (int k = 0; k < 8; k += 7) {
            b.due("GONE", b.x.traveller(k, 0, 9), k);
        }
        b.passAll(0, 1);
        b.step(1, 20);
        for (int k = 0; k < 8; k += 7) {
            b.due("ENDED", b.x.traveller(k, 1, 9), k);
            b.due("with", b.x.traveller(k, 1, 6), k);
        }
        // parts that are here
        b.begin("main{int[] r=new int[90];go 1;}");
        b.step(0, 9);
        b.x.pass(0, 1);
        b.x.pass(1, 0);
        for (int k = 0; k < 3; k++) {
            b.due("parts", b.x.traveller(0, 1, 8), k);
            b.due("of SENT", b.x.traveller(0, 0, 8), 0);
            b.x.pass(0, 1);
        }
        b.due("of HERE WHOLE", b.x.traveller(0, 1, 8), 0);
    }

    /** Promise 20: "0 if there is none such." */
    private static void lines(Bench b) {
        b.begin("main{print 5;print 6;while(true)1;}");
        b.step(0, 9);
        for (int i : new int[] {LEAST, -1, 2, 3, 59, 60, MOST}) {
            b.due("line " + i, b.x.line(0, 0, i), 0);
        }
        b.due("line 0", b.x.line(0, 0, 0), 5);
        b.due("line 1", b.x.line(0, 0, 1), 6);
        for (int t : new int[] {LEAST, -1, 1, 30, MOST}) {
            b.due("of " + t, b.x.line(t, 0, 0), 0);
        }
        for (int h : NO_HOSTS) {
            b.due("at " + h, b.x.line(0, h, 0), 0);
        }
        b.due("not there", b.x.line(0, 1, 0), 0);
    }

    /** At the third step of m: main, and m with 3 on its stack. */
    private static void inM(Bench b) {
        b.begin("class C{int v;C n;int m(int k){return 3+k;}}main{C c=new C;c.n=c;c.v=9;int i=7;return i+c.m(4);}");
        b.step(0, 15);
        b.due("two frames", b.x.traveller(0, 0, 5), 2);
    }

    /** Promise 21: "NONE if there is none such." */
    private static void frames(Bench b) {
        inM(b);
        int[][] want = {{1, b.x.method(0, 1, 3) + 14, 2, 1}, {0, 2, 2, 2}};
        b.step(0, 1);
        for (int i = 0; i < 2; i++) {
            for (int what = 0; what < 4; what++) {
                b.due("frame " + i + ", " + what, b.x.frame(0, 0, i, what), want[i][what]);
            }
            for (int what : new int[] {LEAST, -1, 4, 5, MOST}) {
                b.due("frame " + i + ", " + what, b.x.frame(0, 0, i, what), -1);
            }
        }
        for (int i : new int[] {LEAST, -1, 2, 3, 12, MOST}) {
            for (int what = 0; what < 4; what++) {
                b.due("frame " + i, b.x.frame(0, 0, i, what), -1);
            }
        }
        for (int t : new int[] {LEAST, -1, 1, 30, MOST}) {
            b.due("of " + t, b.x.frame(t, 0, 0, 0), -1);
        }
        for (int h : NO_HOSTS) {
            b.due("at " + h, b.x.frame(0, h, 0, 0), -1);
        }
        b.due("not there", b.x.frame(0, 1, 0, 0), -1);
    }

    /** Promise 22: "Slot, or behind them stack, k of that frame", "0 if there is none such." */
    private static void values(Bench b) {
        inM(b);
        b.step(0, 1);
        int[][] want = {{0, 7, 7}, {0, 4, 3, 4}};
        for (int i = 0; i < 2; i++) {
            for (int k = 0; k < want[i].length; k++) {
                b.due("value " + i + " " + k, b.x.value(0, 0, i, k), want[i][k]);
            }
            for (int k : new int[] {LEAST, -1, want[i].length, want[i].length + 1, MOST}) {
                b.due("value " + i + " " + k, b.x.value(0, 0, i, k), 0);
            }
        }
        for (int i : new int[] {LEAST, -1, 2, 3, MOST}) {
            b.due("frame " + i, b.x.value(0, 0, i, 1), 0);
        }
        // of frames that are gone nothing is told
        b.begin("class C{int m(int k){if(k==0)return 3;return m(k-1);}}main{new C.m(5);while(true)1;}");
        b.step(0, 500);
        b.due("one frame", b.x.traveller(0, 0, 5), 1);
        for (int i = 1; i < 7; i++) {
            for (int k = 0; k < 3; k++) {
                b.due("frame " + i, b.x.value(0, 0, i, k), 0);
            }
            b.due("frame " + i, b.x.frame(0, 0, i, 1), -1);
        }
        inM(b);
        for (int t : new int[] {LEAST, -1, 1, 30, MOST}) {
            b.due("of " + t, b.x.value(t, 0, 0, 1), 0);
        }
        for (int h : NO_HOSTS) {
            b.due("at " + h, b.x.value(0, h, 0, 1), 0);
        }
        b.due("not there", b.x.value(0, 1, 0, 1), 0);
    }

    /** Promise 23: "k -1: its class, -2 of a ROW; k -2: its length (of an OBJECT: fields). 0 if there is none such." */
    private static void cells(Bench b) {
        b.begin("class A{}class C{int v;bool w;C n;int[] r;far C f;}main{C c=new C;c.v=-3;c.w=true;c.n=c;c.r=new int[2];c.r[0]=4;c.r[1]=-5;c.f=pin c;"
            + "A a=new A;int[] z=new int[0];while(true)1;}");
        b.step(0, 60);
        // c 0, a 1, z 2, then c's ROW 3
        int[][] want = {{5, 1, -3, 1, 0, 3, 0}, {0, 0}, {0, -2}, {2, -2, 4, -5}};
        for (int o = 0; o < 4; o++) {
            for (int k = -2; k < want[o].length - 2; k++) {
                b.due("cell " + o + " " + k, b.x.cell(0, 0, o, k), want[o][k < 0 ? k + 2 : k + 2]);
            }
            for (int k : new int[] {LEAST, -4, -3, want[o].length - 2, want[o].length - 1, 100, 300, MOST}) {
                b.due("cell " + o + " " + k, b.x.cell(0, 0, o, k), 0);
            }
        }
        for (int o : new int[] {LEAST, -1, 4, 5, 39, 40, 41, MOST}) {
            for (int k = -2; k < 2; k++) {
                b.due("cell " + o + " " + k, b.x.cell(0, 0, o, k), 0);
            }
        }
        for (int t : new int[] {LEAST, -1, 1, 30, MOST}) {
            b.due("of " + t, b.x.cell(t, 0, 0, -2), 0);
        }
        for (int h : NO_HOSTS) {
            b.due("at " + h, b.x.cell(0, h, 0, -2), 0);
        }
        // null in fields is NONE
        b.begin("class C{int v;bool w;C n;int[] r;far C f;}main{C c=new C;while(true)1;}");
        b.step(0, 9);
        int[] none = {0, 0, -1, -1, -1};
        for (int k = 0; k < 5; k++) {
            b.due("new, " + k, b.x.cell(0, 0, 0, k), none[k]);
        }
    }

    /** Promises 11, 26: "NONE if there is none such." */
    private static void messages(Bench b) {
        b.begin("main{go 4;while(true)1;}");
        b.step(0, 9);
        b.x.tick(0);
        for (int what : new int[] {LEAST, -1, 5, 6, 10, MOST}) {
            b.due("what " + what, b.x.message(0, 4, 0, what), -1);
        }
        for (int i : new int[] {LEAST, -1, 2, 3, 40, MOST}) {
            b.due("MESSAGE " + i, b.x.message(0, 4, i, 0), -1);
        }
        b.due("the first", b.x.message(0, 4, 0, 0), 0);
        b.due("the second", b.x.message(0, 4, 1, 0), 0);
        for (int h : NO_HOSTS) {
            b.due("from " + h, b.x.message(h, 4, 0, 0), -1);
            b.due("to " + h, b.x.message(0, h, 0, 0), -1);
            b.due("from " + h, b.x.pass(h, 4), -1);
            b.due("to " + h, b.x.pass(0, h), -1);
            for (int how = 0; how < 4; how++) {
                b.due("from " + h, b.x.trouble(h, 4, how), false);
                b.due("to " + h, b.x.trouble(0, h, how), false);
            }
        }
        for (int h = 0; h < 5; h++) {
            b.due("to itself", b.x.pass(h, h), -1);
            b.due("to itself", b.x.message(h, h, 0, 0), -1);
            b.due("to itself", b.x.trouble(h, h, 1), false);
        }
        b.due("two", b.x.count(3), 2);
        b.due("another way", b.x.pass(4, 0), -1);
        b.due("another way", b.x.pass(0, 3), -1);
    }

    private static final String TWO = "class C{int v;C n;int m(int k){v=v+k;return v;}}main{C c=new C;c.n=c;far C f=pin c;print 5;put 1,2;"
        + "if(self==0)go 1;if(self==1)raise 3;if(self==2)return 4;int[] r=new int[3];while(true)f.m(1);}";

    /** Four travellers at host 0: one SENT, one FAILED, one ENDED, one ACTING; host 3 is DOWN; bytes on the tape and in OUT. */
    private static void busy(Bench b) {
        b.begin(TWO);
        b.start(0, 0);
        b.start(0, 0);
        b.start(0, 0);
        b.step(0, 60);
        b.x.pass(0, 1);
        b.x.pass(1, 0);
        b.x.tick(0);
        b.x.power(3, 1);
        b.x.pack(3, 0);
        b.x.feed(1, 2, 3, 4, 5);
        b.come(2);
        b.x.feed(0x54525252, 0, 0, 0, 0);
    }

    /** All that can be asked, in some 200 calls. */
    private static String picture(Bench b) {
        StringBuilder all = new StringBuilder();
        for (int what = 0; what < 6; what++) {
            all.append(b.x.count(what)).append(' ');
        }
        for (int h = 0; h < 5; h++) {
            for (int what = 0; what < 7; what++) {
                all.append(b.x.host(h, what)).append(' ');
            }
        }
        for (int t = 0; t < 4; t++) {
            for (int what = 0; what < 11; what++) {
                all.append(b.x.traveller(t, 0, what)).append(' ');
            }
            for (int k = 0; k < 5; k++) {
                all.append(b.x.value(t, 0, 0, k)).append(' ').append(b.x.line(t, 0, k)).append(' ').append(b.x.cell(t, 0, 0, k - 2)).append(' ');
            }
            all.append(b.x.frame(t, 0, 0, 1)).append(' ').append(b.x.frame(t, 0, 0, 3)).append(' ');
        }
        for (int what = 0; what < 11; what++) {
            all.append(b.x.traveller(0, 1, what)).append(' ');
        }
        for (int i = 0; i < 4; i++) {
            all.append(b.x.message(0, 1, i, 0)).append(' ').append(b.x.message(0, 1, i, 3)).append(' ').append(b.x.message(1, 0, i, 0)).append(' ');
            all.append(b.x.thing(0, i, 0)).append(' ').append(b.x.board(0, i)).append(' ').append(b.x.at(0, i)).append(' ');
        }
        for (int k = 0; k < 40; k++) {
            all.append(b.x.out(k)).append(' ');
        }
        return all.append(b.x.place()).append(' ').append(b.x.program(0, 2)).toString();
    }

    /** "What throws, or answers NONE for what was asked, changes nothing."; false likewise. */
    private static void refusedCallsChangeNothing(Bench b) {
        busy(b);
        String want = picture(b);
        b.due("a picture", want.length() > 300, true);
        busy(b);
        b.due("the same again", picture(b), want);
        busy(b);
        for (int h : NO_HOSTS) {
            b.x.give(h, 0);
            b.start(0, h);
            b.step(h, 1);
            b.x.pass(h, 0);
            b.x.pass(0, h);
            b.x.trouble(h, 0, 0);
            b.x.trouble(0, h, 0);
            b.x.tick(h);
            b.x.power(h, 0);
            b.x.power(h, 1);
            b.x.power(h, 2);
            b.x.giveUp(0, h);
            b.x.pack(0, h);
            b.come(h);
        }
        b.due("refused for the host", picture(b), want);
        busy(b);
        for (int n : new int[] {LEAST, -1, 21, 22, MOST}) {
            b.x.back(n);
        }
        for (int n : new int[] {LEAST, -1, 501, MOST}) {
            b.step(0, n);
        }
        for (int p : new int[] {LEAST, -1, 0, 1, 8, MOST}) {
            b.x.give(0, p);
            b.x.give(3, p);
            b.start(p == 0 ? -1 : p, 0);
            b.start(p, 3);
        }
        for (int how : new int[] {LEAST, -1, 3, 4, MOST}) {
            b.x.trouble(0, 1, how == 3 ? 4 : how);
            b.x.power(0, how);
            b.x.power(3, how);
        }
        b.x.power(0, 2);
        b.x.power(3, 0);
        b.x.power(3, 1);
        b.x.trouble(1, 0, 3);
        b.x.trouble(2, 0, 1);
        b.x.pass(2, 0);
        b.x.pass(0, 0);
        b.x.tick(3);
        b.step(3, 5);
        b.come(3);
        for (int t : new int[] {LEAST, -1, 1, 2, 3, 4, 30, MOST}) {
            b.x.giveUp(t, 0);
            b.x.pack(t == 3 ? 4 : t, 0);
        }
        b.x.giveUp(0, 1);
        b.x.pack(0, 1);
        b.due("refused", picture(b), want);
        // no room on the line: doubling is refused
        busy(b);
        while (b.x.message(0, 1, 39, 0) < 0) {
            b.x.trouble(0, 1, 1);
        }
        int lost = b.x.count(4);
        b.due("no room", b.x.trouble(0, 1, 1), false);
        b.due("forty", b.x.message(0, 1, 39, 0) >= 0 && b.x.message(0, 1, 40, 0) < 0, true);
        b.due("nothing lost", b.x.count(4), lost);
    }

    /** What is asked changes nothing of what is done then. */
    private static void questionsChangeNothing(Bench b) {
        busy(b);
        b.step(0, 9);
        b.x.pass(0, 1);
        b.x.pass(1, 0);
        String want = picture(b);
        busy(b);
        picture(b);
        b.step(0, 9);
        b.x.pass(0, 1);
        b.x.pass(1, 0);
        b.due("asked in the midst", picture(b), want);
    }

    /** "An object is used for at most 512 calls after it has been made": the last of them is as good as the first. */
    private static void fiveHundredAndTwelve(Bench b) {
        b.begin("main{int i=0;while(true){i=i+1;print i;}}");
        int used = b.x.callsMade();
        for (int i = used; i < House.MOST_CALLS - 1; i++) {
            b.due("step", b.step(0, 500), 500);
        }
        b.due("the 512th", b.x.traveller(0, 0, 1), 500 * (House.MOST_CALLS - 1 - used));
        b.due("calls", b.x.callsMade(), 512);
    }
}
