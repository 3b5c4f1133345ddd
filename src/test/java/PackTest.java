/** Promises 27 to 30: PACKED travellers, and bytes that become travellers. */
public final class PackTest {
    private static final String TEXT = "class D{bool w;int[] r;far C f;}class C{int v;C n;D d;"
        + "int m(int k,bool t){int z=k*100;C q=null;if(t)return z+v+m(k+1,false);while(v<1000){v=v+1;}return v;}}"
        + "main{C c=new C;int i=-3;far C g=null;C o=null;print 70000;print -1;c.n=c;c.d=new D;c.d.w=true;c.d.r=new int[3];"
        + "c.d.r[1]=-300;c.d.f=pin c;g=c.d.f;c.v=200;return 5+c.m(i,true);}";

    public static void main(String[] args) {
        Bench b = new Bench();
        bytes(b);
        states(b);
        goesOn(b);
        exceptions(b);
        faults(b);
        places(b);
        numbers(b);
        onItsWay(b);
        references(b);
        limits(b);
        b.end();
    }

    private static final java.io.ByteArrayOutputStream MADE = new java.io.ByteArrayOutputStream();

    /** A NUM, by the document's words. */
    private static void num(int n) {
        long bits = n >= 0 ? 2L * n : -2L * n - 1;
        while (bits >= 128) {
            MADE.write((int) (bits % 128) + 128);
            bits /= 128;
        }
        MADE.write((int) bits);
    }

    private static byte[] made() {
        byte[] body = MADE.toByteArray();
        MADE.reset();
        return withSum(body);
    }

    private static byte[] withSum(byte[] body) {
        byte[] all = java.util.Arrays.copyOf(body, body.length + 8);
        long sum = Bench.sum(body, body.length);
        for (int i = 0; i < 8; i++) {
            all[body.length + i] = (byte) (sum >>> 56 - 8 * i);
        }
        return all;
    }

    private static byte[] make(int... nums) {
        MADE.write(84);
        MADE.write(82);
        for (int n : nums) {
            num(n);
        }
        return made();
    }

    /** Up to the deep end: two frames of m above main's. */
    private static byte[] deep(Bench b) {
        b.begin(TEXT);
        for (int i = 0; i < 300 && b.x.traveller(0, 0, 5) < 3; i++) {
            b.step(0, 1);
        }
        b.step(0, 6);
        return b.packed(0, 0);
    }

    private static void bytes(Bench b) {
        byte[] got = deep(b);
        int sum = b.x.program(0, 3);
        int steps = b.x.traveller(0, 0, 1);
        int mainPlace = b.x.frame(0, 0, 0, 1);
        int lower = b.x.frame(0, 0, 1, 1);
        int upper = b.x.frame(0, 0, 2, 1);
        b.due("frames", b.x.traveller(0, 0, 5), 3);
        // main: c, i, g, o and 5; m: this, k, t, z, q and z + v; m: this, k, t, z, q and nothing
        byte[] want = make(0, 0, sum, 0, steps, 0, 0, 2, 70000, -1, 3,
            1, mainPlace, 1, -3, 1, 0, 0, 5,
            0, lower, 1, -3, 1, -300, 0, -100,
            0, upper, 1, -2, 0, -200, 0,
            3, 0, 1, 200, 1, 2, 0, 0, 1, 3, 1, 0, 1, 3, 0, -300, 0);
        b.due("bytes", java.util.Arrays.toString(got), java.util.Arrays.toString(want));
        b.due("OUT", b.x.count(5), want.length);
        b.due("out", b.x.out(0), 84);
        b.due("out", b.x.out(want.length), -1);
        b.due("out", b.x.out(-1), -1);
        b.due("out is 0 .. 255", b.x.out(want.length - 1), want[want.length - 1] & 255);
        b.due("no such", b.x.pack(1, 0), -1);
        b.due("no such", b.x.pack(0, 1), -1);
        b.due("no such", b.x.pack(0, 5), -1);
        b.due("OUT stays", b.x.count(5), want.length);
    }

    private static void states(Bench b) {
        b.begin("main{return 1;}");
        b.step(0, 5);
        b.due("ENDED", b.x.pack(0, 0), -1);
        b.begin("main{raise 1;}");
        b.step(0, 5);
        b.due("FAILED", b.x.pack(0, 0), -1);
        b.begin("main{go 1;}");
        b.step(0, 5);
        b.due("OFFERED", b.x.pack(0, 0) > 0, true);
        b.x.pass(0, 1);
        b.due("COMING", b.x.pack(0, 1), -1);
        b.x.pass(1, 0);
        b.due("SENT", b.x.pack(0, 0) > 0, true);
        b.x.pass(0, 1);
        b.due("HERE WHOLE", b.x.pack(0, 1), -1);
        b.x.pass(1, 0);
        b.due("GONE", b.x.pack(0, 0), -1);
        b.x.pass(0, 1);
        b.due("ACTING", b.x.pack(0, 1) > 0, true);
    }

    private static void goesOn(Bench b) {
        byte[] bytes = deep(b);
        int kept = b.x.host(2, 4);
        b.feed(bytes);
        b.due("come", b.come(2), 1);
        b.due("tape", b.x.count(0), 0);
        b.due("place", b.x.place(), -1);
        b.due("kept", b.x.host(2, 4), kept + 1);
        b.due("ever", b.x.count(2), 2);
        b.due("at", b.x.at(2, 0), 1);
        b.due("ACTING", b.x.traveller(1, 2, 0), 0);
        for (int what : new int[] {1, 2, 3, 4, 5, 6, 8, 9, 10}) {
            b.due("same " + what, b.x.traveller(1, 2, what), b.x.traveller(0, 0, what));
        }
        for (int i = 0; i < 3; i++) {
            for (int what = 0; what < 4; what++) {
                b.due("frame", b.x.frame(1, 2, i, what), b.x.frame(0, 0, i, what));
            }
            for (int k = 0; k < 7; k++) {
                b.due("value", b.x.value(1, 2, i, k), b.x.value(0, 0, i, k));
            }
        }
        for (int o = 0; o < 3; o++) {
            for (int k = -2; k < 4; k++) {
                b.due("cell", b.x.cell(1, 2, o, k), b.x.cell(0, 0, o, k));
            }
        }
        b.due("line", b.x.line(1, 2, 0), 70000);
        byte[] again = b.packed(1, 2);
        b.due("but for the number", again.length, bytes.length);
        for (int i = 0; i < 20; i++) {
            b.step(0, 500);
            b.step(2, 500);
        }
        b.due("ends", b.x.traveller(0, 0, 0), 7);
        b.due("ends alike", b.x.traveller(1, 2, 6), b.x.traveller(0, 0, 6));
        b.due("steps alike", b.x.traveller(1, 2, 1), b.x.traveller(0, 0, 1));
        // counts go on, MOVES and CALLS begin anew
        b.begin("main{while(true)print 1;}");
        b.feed(make(0, 0, b.x.program(0, 3), 29, 2147483647, 12, 13, 2147483647, 0, 0, 0, 0, 0, 0, 0, 0, 0, 0, 0, 0, 0, 0, 0, 0, 0,
            0, 0, 0, 0, 0, 0, 0, 0, 0, 0, 0, 0, 0, 0, 0, 0, 0, 0, 0, 0, 0, 0, 0, 0, 0, 0, 0, 0, 0, 0, 0, 0, 0, 0, 0, 0, 0, 0, 0, 0, 0, 0, -9,
            1, 0, 0, 0));
        b.due("come", b.come(0), 1);
        b.due("steps", b.x.traveller(1, 0, 1), Integer.MAX_VALUE);
        b.due("moves", b.x.traveller(1, 0, 2), 0);
        b.due("calls", b.x.traveller(1, 0, 3), 0);
        b.due("lines", b.x.traveller(1, 0, 4), Integer.MAX_VALUE);
        b.due("line", b.x.line(1, 0, 59), -9);
        b.due("step", b.step(0, 5), 10);
        b.due("steps stay there", b.x.traveller(1, 0, 1), Integer.MAX_VALUE);
        b.due("lines stay there", b.x.traveller(1, 0, 4), Integer.MAX_VALUE);
        b.due("another line", b.x.traveller(0, 0, 4), 1);
    }

    private static void exceptions(Bench b) {
        byte[] bytes = deep(b);
        b.feed(bytes);
        b.due("no host", b.come(5), Bench.ILLEGAL_ARGUMENT);
        b.due("no host", b.come(-1), Bench.ILLEGAL_ARGUMENT);
        b.x.power(1, 1);
        b.due("DOWN", b.come(1), Bench.ILLEGAL_STATE);
        b.due("the tape stays", b.x.count(0), bytes.length);
        for (int i = 0; i < 8; i++) {
            b.start(0, 2);
        }
        b.due("eight", b.come(2), Bench.ILLEGAL_STATE);
        b.due("place", b.x.place(), -1);
        b.due("come", b.come(3), 9);
        b.begin("main{return 1;}");
        byte[] small = b.packed(0, 0);
        for (int i = 1; i < 30; i++) {
            b.step(0, 5);
            b.start(0, 0);
        }
        b.feed(small);
        b.due("no number left", b.come(1), Bench.ILLEGAL_STATE);
        b.due("the tape stays", b.x.count(0), small.length);
    }

    private static void fault(Bench b, byte[] bytes, int fault, int place) {
        b.feed(bytes);
        int kept = b.x.host(4, 4);
        b.due("come", b.come(4), -1 - fault);
        b.due("place", b.x.place(), place);
        b.due("tape", b.x.count(0), 0);
        b.due("nothing came", b.x.host(4, 1), 0);
        b.due("nothing kept", b.x.host(4, 4), kept);
    }

    private static void faults(Bench b) {
        byte[] good = deep(b);
        fault(b, new byte[0], 1, 0);
        fault(b, new byte[] {84}, 1, 1);
        fault(b, new byte[] {83, 82}, 2, 0);
        fault(b, new byte[] {84, 83}, 2, 1);
        fault(b, new byte[] {84, 82}, 1, 2);
        b.fresh();
        b.begin(TEXT);
        for (int n = 2; n < good.length; n++) {
            if (n % 30 == 0) {
                b.begin(TEXT);
            }
            fault(b, java.util.Arrays.copyOf(good, n), 1, n);
        }
        b.begin(TEXT);
        // too many; the eight bytes are asked last
        fault(b, java.util.Arrays.copyOf(good, good.length + 1), 1, good.length);
        byte[] bad = java.util.Arrays.copyOf(good, good.length + 30);
        bad[good.length - 3] ^= 1;
        fault(b, bad, 1, good.length);
        for (int i = 1; i <= 8; i++) {
            bad = good.clone();
            bad[good.length - i] ^= 64;
            fault(b, bad, 2, good.length - 8);
        }
        // a number that is another one, but could be: only the sum tells
        bad = good.clone();
        bad[2 + 2 + 3 + 1] ^= 2;
        fault(b, bad, 2, good.length - 8);
    }

    /** Where in bytes the n-th NUM, from 0 on, begins. */
    private static int begin(byte[] bytes, int n) {
        int at = 2;
        for (int i = 0; i < n; i++) {
            while (bytes[at] < 0) {
                at++;
            }
            at++;
        }
        return at;
    }

    /** The n-th NUM becomes these bytes, with the sum made right. */
    private static byte[] other(byte[] bytes, int n, int... instead) {
        int from = begin(bytes, n);
        int to = begin(bytes, n + 1);
        MADE.write(bytes, 0, from);
        for (int i : instead) {
            MADE.write(i);
        }
        MADE.write(bytes, to, bytes.length - 8 - to);
        return made();
    }

    private static byte[] otherNum(byte[] bytes, int n, int number) {
        num(number);
        byte[] as = MADE.toByteArray();
        MADE.reset();
        int[] instead = new int[as.length];
        for (int i = 0; i < as.length; i++) {
            instead[i] = as[i] & 255;
        }
        return other(bytes, n, instead);
    }

    private static void places(Bench b) {
        byte[] good = deep(b);
        // NUMs that are none: longer than need be, more than five, beyond 32 bits
        for (int n : new int[] {0, 1, 2, 4, 8, 11, 13, 30}) {
            int at = begin(good, n);
            fault(b, other(good, n, 128, 0), 3, at);
            fault(b, other(good, n, 129, 128, 0), 3, at);
            fault(b, other(good, n, 255, 255, 255, 255, 255, 1), 3, at);
            fault(b, other(good, n, 128, 128, 128, 128, 16), 3, at);
            fault(b, other(good, n, 255, 255, 255, 255, 127), 3, at);
            b.begin(TEXT);
        }
        // 32 bits are fine: of a LINE
        b.feed(other(good, 8, 255, 255, 255, 255, 15));
        b.due("come", b.come(4), 1);
        b.due("line", b.x.line(1, 4, 0), Integer.MIN_VALUE);
        b.feed(other(good, 8, 254, 255, 255, 255, 15));
        b.due("come", b.come(4), 2);
        b.due("line", b.x.line(2, 4, 0), Integer.MAX_VALUE);
    }

    private static void numbers(Bench b) {
        byte[] good = deep(b);
        // which NUM, another number
        int mainPlace = b.x.frame(0, 0, 0, 1);
        int upper = b.x.frame(0, 0, 2, 1);
        int end = b.x.program(0, 2);
        int[][] all = {
            {0, 1}, {0, 2}, {0, -1}, {1, 1}, {1, -1}, {1, 8}, {2, 0}, {2, -1}, {3, -1}, {3, 30}, {4, -1}, {5, -1}, {6, -1}, {7, -1},
            {10, 0}, {10, 13}, {10, -1}, {11, 0}, {11, 2}, {11, -1}, {12, mainPlace - 1}, {12, mainPlace + 1}, {12, -1}, {12, 0},
            {12, end}, {19, 1}, {20, 0}, {20, upper}, {20, -1}, {27, 1}, {28, -1}, {28, mainPlace}, {28, end - 1},
            {13, -1}, {13, 2}, {13, 41}, {15, -1}, {15, 6}, {16, 20}, {16, -1}, {17, 3}, {17, -1}, {21, 3}, {23, 2}, {23, -1},
            {34, 0}, {34, -1}, {34, 41}, {35, 1}, {35, -1}, {36, 0}, {36, 2}, {38, 3}, {39, 1}, {39, 4}, {39, -1}, {40, 1}, {41, 1},
            {42, 2}, {43, 5}, {43, 1}, {43, 2}, {44, 6}, {44, -1}, {45, 20}, {45, -1}, {46, 0}, {46, 2}, {47, -1}, {47, 101}};
        for (int i = 0; i < all.length; i++) {
            if (i % 20 == 9) {
                b.begin(TEXT);
            }
            byte[] bad = otherNum(good, all[i][0], all[i][1]);
            fault(b, bad, 4, begin(good, all[i][0]));
        }
        b.begin(TEXT);
        // that there are no more than two is seen where the third one is met
        fault(b, otherNum(good, 34, 2), 4, begin(good, 43));
        // a host that has not the program
        b.fresh();
        b.read(TEXT);
        b.x.give(0, 0);
        b.feed(good);
        b.due("come", b.come(4), -5);
        b.due("place", b.x.place(), 3);
        b.x.power(4, 1);
        b.due("throws", b.come(4), Bench.ILLEGAL_STATE);
        b.due("place stays", b.x.place(), 3);
        b.feed(good);
        b.due("come", b.come(0), 0);
        b.due("place", b.x.place(), -1);
        // any LINE, any int, any THING's number that could be
        b.begin(TEXT);
        int[][] fine = {{3, 29}, {4, 0}, {5, 7}, {6, 7}, {8, -5}, {14, -2147483648}, {15, 5}, {18, 7}, {22, 9}, {37, -1}, {42, 0},
            {44, 0}};
        for (int[] f : fine) {
            byte[] bytes = otherNum(good, f[0], f[1]);
            if (f[0] == 44) {
                bytes = other(good, 44, 2);
            }
            b.feed(bytes);
            b.due("come with " + f[0] + " " + f[1], b.come(4) > 0, true);
            b.x.power(4, 1);
            b.x.power(4, 2);
            b.step(4, 500);
            b.step(4, 500);
            b.step(4, 500);
            b.step(4, 500);
            b.step(4, 500);
        }
    }

    private static void onItsWay(Bench b) {
        b.begin("main{go 1;while(true)1;}");
        b.step(0, 5);
        byte[] way = b.packed(0, 0);
        b.due("on its way", way[2], 2);
        fault(b, way, 4, 2);
        // one that is not has the E on its stack, still
        b.feed(make(0, 0, b.x.program(0, 3), 0, 1, 0, 0, 0, 1, 0, 1, 3, 0));
        b.due("come", b.come(2), 1);
        b.due("step", b.step(2, 1), 1);
        b.due("OFFERED", b.x.traveller(1, 2, 0), 1);
        b.due("to", b.x.traveller(1, 2, 7), 3);
    }

    /** Fault 4 at the n-th of these NUMs. */
    private static void at(Bench b, int n, int... nums) {
        byte[] bytes = make(nums);
        fault(b, bytes, 4, begin(bytes, n));
    }

    private static void references(Bench b) {
        // nulls without a TYPE on a stack, an OBJECT that is on the stack alone, a frame of this that is null
        b.begin("class C{int v;int m(C c,int[] r,int k){return v;}}main{int[] r=null;return new C.m(null,r,get 0);}");
        b.step(0, 6);
        int sum = b.x.program(0, 3);
        int place = b.x.frame(0, 0, 0, 1);
        b.due("bytes", java.util.Arrays.toString(b.packed(0, 0)), java.util.Arrays.toString(
            make(0, 0, sum, 0, 6, 0, 0, 0, 1, 1, place, 0, 1, 0, 0, 0, 1, 0, 0, 0)));
        at(b, 13, 0, 0, sum, 0, 6, 0, 0, 0, 1, 1, place, 0, 1, 1, 0, 0, 1, 0, 0, 0);
        at(b, 13, 0, 0, sum, 0, 6, 0, 0, 0, 1, 1, place, 0, 1, -1, 0, 0, 1, 0, 0, 0);
        // met first as a ROW, then as an OBJECT
        at(b, 12, 0, 0, sum, 0, 6, 0, 0, 0, 1, 1, place, 1, 1, 0, 0, 0, 1, 0, 0, 0);
        // numbers go up by one
        at(b, 12, 0, 0, sum, 0, 6, 0, 0, 0, 1, 1, place, 0, 2, 0, 0, 0, 1, 0, 0, 0);
        at(b, 12, 0, 0, sum, 0, 6, 0, 0, 0, 1, 1, place, 1, 3, 0, 0, 0, 1, 0, 0, 0);
        b.feed(make(0, 0, sum, 0, 6, 0, 0, 0, 1, 1, place, 1, 2, 0, 1, 0, 2, 1, 1, 7, 0, 0, 55));
        b.due("come", b.come(4), 1);
        b.step(4, 9);
        b.due("end", b.x.traveller(1, 4, 6), 55);
        b.due("reached", b.x.traveller(1, 4, 10), 1);
        // this that is null is told like any null
        b.feed(make(0, 0, sum, 0, 6, 0, 0, 0, 2, 1, place + 2, 0, 0, 0, 0, 0, 0, 0, 0));
        b.due("come", b.come(4), 2);
        b.step(4, 9);
        b.due("told", b.x.traveller(2, 4, 6), -1);
        // a place that no way leads to
        b.begin("main{return 1;}");
        at(b, 10, 0, 0, b.x.program(0, 3), 0, 0, 0, 0, 0, 1, 0, 2, 0);
        at(b, 10, 0, 0, b.x.program(0, 3), 0, 0, 0, 0, 0, 1, 0, 3, 0, 0);
        // a bool on a stack
        b.begin("main{bool a=true;bool c=a==(get 1==2);while(true)1;}");
        b.step(0, 3);
        sum = b.x.program(0, 3);
        b.feed(make(0, 0, sum, 0, 3, 0, 0, 0, 1, 0, 3, 1, 0, 1, 0));
        b.due("come", b.come(4), 1);
        b.fresh();
        b.begin("main{bool a=true;bool c=a==(get 1==2);while(true)1;}");
        at(b, 13, 0, 0, sum, 0, 3, 0, 0, 0, 1, 0, 3, 1, 0, 2, 0);
        at(b, 11, 0, 0, sum, 0, 3, 0, 0, 0, 1, 0, 1, 2, 0, 0, 0);
        // true itself is a bool there
        at(b, 13, 0, 0, sum, 0, 3, 0, 0, 0, 1, 0, 1, 0, 0, 2, 0);
    }

    private static void limits(Bench b) {
        // cells above 300, at the length or class that is too much: three Cs, two ROWS of 100, and one more
        b.begin("class C{int[] r;C n;}main{C c=new C;while(true)1;}");
        int sum = b.x.program(0, 3);
        for (int last = 93; last <= 96; last++) {
            MADE.write(84);
            MADE.write(82);
            all(0, 0, sum, 0, 0, 0, 0, 0, 1, 0, 2, 1, 6, 0, 0, 2, 3);
            row(100);
            all(0, 0, 4, 5);
            row(100);
            all(0, 0, 6, 0, 1);
            int place = MADE.size();
            num(last);
            for (int i = 0; i < last; i++) {
                num(0);
            }
            byte[] bytes = made();
            if (last == 93 || last == 94) {
                b.feed(bytes);
                b.due("come", b.come(3), last - 92);
            } else {
                fault(b, bytes, 4, place);
            }
        }
        // as many OBJECTS as can be, and one more than were met
        byte[] one = make(0, 0, sum, 0, 0, 0, 0, 0, 1, 0, 2, 1, 1, 0, 0, 0, 0);
        b.feed(one);
        b.due("come", b.come(3) > 0, true);
        b.begin("class C{int[] r;C n;}main{C c=new C;while(true)1;}");
        byte[] two = make(0, 0, sum, 0, 0, 0, 0, 0, 1, 0, 2, 1, 2, 0, 0, 0, 0, 0, 0, 0, 0);
        b.feed(two);
        b.due("come", b.come(3), -5);
        b.due("at its beginning", b.x.place(), make(0, 0, sum, 0, 0, 0, 0, 0, 1, 0, 2, 1, 2, 0, 0, 0, 0).length - 8);
    }

    private static void all(int... nums) {
        for (int n : nums) {
            num(n);
        }
    }

    private static void row(int length) {
        num(1);
        num(length);
        for (int i = 0; i < length; i++) {
            num(0);
        }
    }
}
