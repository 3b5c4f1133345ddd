import java.util.Arrays;
import java.util.function.Consumer;

/** Terms 4 (PACKED) and 6 (to UNPACK bytes): each number that bytes tell, at its edges and on both sides of them. */
public final class EdgePackTest {
    public static void main(String[] args) {
        Bench b = new Bench();
        nums(b);
        numsThatAreNone(b);
        endsTooEarly(b);
        goesOnBehindTheEnd(b);
        firstBytes(b);
        sums(b);
        heads(b);
        linesKept(b);
        bools(b);
        references(b);
        things(b);
        howMany(b);
        sorts(b);
        lengths(b);
        cells(b);
        forty(b);
        fortyMetInSlots(b);
        metBefore(b);
        frames(b);
        methods(b);
        places(b);
        placesBeneath(b);
        eachStep(b);
        typesOnStacks(b);
        nullsOnStacks(b);
        onItsWay(b);
        comes(b);
        outs(b);
        b.end();
    }

    private static String name(int[] nums) {
        return Arrays.toString(nums);
    }

    private static Consumer<Bench> maker = b -> b.fresh();

    private static void use(Bench b, Consumer<Bench> newMaker) {
        maker = newMaker;
        maker.accept(b);
    }

    private static void use(Bench b, String text) {
        use(b, x -> x.begin(text));
    }

    /** Another house of that make, when the one at hand has come to its limits. */
    private static void haveRoom(Bench b, int h, int bytes) {
        if (b.x.host(h, 1) > 7 || b.x.count(2) > 28 || b.x.callsMade() > House.MOST_CALLS - 80 - bytes / 20) {
            maker.accept(b);
        }
    }

    private static void comes(Bench b, int h, byte[] bytes, String what) {
        haveRoom(b, h, bytes.length);
        b.feed(bytes);
        int t = b.x.count(2);
        b.due("come of " + what, b.come(h), t);
        b.due("place", b.x.place(), -1);
    }

    private static void fault(Bench b, byte[] bytes, int fault, int place, String what) {
        haveRoom(b, 4, bytes.length);
        b.feed(bytes);
        b.due("come of " + what, b.come(4), -1 - fault);
        b.due("its place", b.x.place(), place);
    }

    private static final String PLAIN = "main{int i=0;while(true)1;}";

    /** Seven NUMs of PLAIN's traveller up to CALLS, then its LINES. */
    private static Bytes plain(Bench b) {
        return new Bytes().nums(0, 0, b.x.program(0, 3), 0, 0, 0, 0);
    }

    private static final int[] INTS = {0, -1, 1, -2, 2, 62, -63, 63, -64, 64, -65, 8190, -8191, 8191, -8192, 8192, -8193, 1048575, -1048576,
        1048576, -1048577, 134217727, -134217728, 134217728, -134217729, 2147483646, -2147483647, 2147483647, Integer.MIN_VALUE};

    /** "A NUM is an int in bytes of seven bits, the lowest first, 128 more on all but the last, as few as can be; 0, -1, 1, -2 .. as 0, 1, 2, 3 ..." */
    private static void nums(Bench b) {
        StringBuilder prints = new StringBuilder("main{");
        for (int n : INTS) {
            prints.append("print ").append(n == Integer.MIN_VALUE ? "-2147483647-1" : "" + n).append(";");
        }
        use(b, prints + "while(true)1;}");
        b.step(0, 90);
        byte[] got = b.packed(0, 0);
        int steps = b.x.traveller(0, 0, 1);
        int place = b.x.frame(0, 0, 0, 1);
        int height = b.x.frame(0, 0, 0, 3);
        Bytes want = new Bytes().nums(0, 0, b.x.program(0, 3), 0, steps, 0, 0, INTS.length).nums(INTS).nums(1, 0, place);
        for (int k = 0; k < height; k++) {
            want.nums(1);
        }
        want.nums(0);
        b.due("bytes", Arrays.toString(got), Arrays.toString(want.packed()));
        // by hand: what the edges look like
        byte[][] hand = {{0}, {1}, {2}, {127}, {-128, 1}};
        int[] of = {0, -1, 1, -64, 64};
        for (int i = 0; i < of.length; i++) {
            byte[] one = new Bytes().nums(of[i]).packed();
            b.due("NUM " + of[i], Arrays.toString(Arrays.copyOfRange(one, 2, one.length - 8)), Arrays.toString(hand[i]));
        }
        // and back
        use(b, PLAIN);
        b.feed(plain(b).nums(INTS.length).nums(INTS).nums(1, 0, 2, 5, 0).packed());
        b.due("come", b.come(1), 1);
        for (int i = 0; i < INTS.length; i++) {
            b.due("LINE", b.x.line(1, 1, i), INTS[i]);
        }
    }

    /** "3 a NUM that is none (more than 5 bytes, beyond 32 bits, or longer than need be)". */
    private static void numsThatAreNone(Bench b) {
        int[][] none = {{128, 0}, {255, 0}, {129, 0}, {128, 128, 0}, {255, 255, 0}, {128, 128, 128, 0}, {255, 255, 255, 0}, {128, 128, 128, 128, 0},
            {255, 255, 255, 255, 0}, {128, 128, 128, 128, 16}, {255, 255, 255, 255, 16}, {255, 255, 255, 255, 31}, {255, 255, 255, 255, 127},
            {128, 128, 128, 128, 32}, {128, 128, 128, 128, 64}, {128, 128, 128, 128, 128}, {255, 255, 255, 255, 255},
            {128, 128, 128, 128, 128, 0}, {128, 128, 128, 128, 128, 1}, {255, 255, 255, 255, 143, 0}, {255, 255, 255, 255, 128, 128, 1}};
        int[][] good = {{0}, {127}, {128, 1}, {255, 127}, {128, 128, 1}, {255, 255, 127}, {128, 128, 128, 1}, {255, 255, 255, 127},
            {128, 128, 128, 128, 1}, {255, 255, 255, 255, 15}, {128, 128, 128, 128, 15}, {254, 255, 255, 255, 15}};
        use(b, PLAIN);
        int first = plain(b).nums(1).size();
        for (int[] bytes : none) {
            fault(b, plain(b).nums(1).raw(bytes).nums(1, 0, 2, 5, 0).packed(), 3, first, name(bytes));
        }
        use(b, PLAIN);
        for (int[] bytes : good) {
            comes(b, 4, plain(b).nums(1).raw(bytes).nums(1, 0, 2, 5, 0).packed(), name(bytes));
        }
        // wherever it stands, and though the number could not be, either
        use(b, PLAIN);
        int[] all = {0, 0, b.x.program(0, 3), 0, 0, 0, 0, 1, 7, 1, 0, 2, 5, 0};
        for (int at = 0; at < all.length; at++) {
            Bytes with = new Bytes().nums(Arrays.copyOf(all, at));
            int place = with.size();
            fault(b, with.raw(128, 0).nums(Arrays.copyOfRange(all, at + 1, all.length)).packed(), 3, place, "NUM " + at);
            with = new Bytes().nums(Arrays.copyOf(all, at));
            fault(b, with.raw(255, 255, 255, 255, 16).nums(Arrays.copyOfRange(all, at + 1, all.length)).packed(), 3, place, "NUM " + at);
        }
        // the bytes end, but that it is none is seen ahead of it
        use(b, PLAIN);
        byte[] cut = plain(b).nums(1).raw(255, 255, 255, 255, 255).packed();
        fault(b, Arrays.copyOf(cut, first + 5), 3, first, "five that go on, and the end");
        fault(b, Arrays.copyOf(cut, first + 4), 1, first + 4, "four that go on, and the end");
        fault(b, Arrays.copyOf(cut, first + 1), 1, first + 1, "one that goes on, and the end");
        fault(b, Arrays.copyOf(cut, first), 1, first, "the end");
    }

    /** "1 the bytes end too early .. (place: how many there are ..)". */
    private static void endsTooEarly(Bench b) {
        use(b, PLAIN);
        byte[] good = plain(b).nums(2, 300, -5, 1, 0, 2, 5, 0).packed();
        for (int n = 0; n < good.length; n++) {
            fault(b, Arrays.copyOf(good, n), 1, n, n + " bytes");
        }
        comes(b, 4, good, "all bytes");
        // with an OBJECT, in whose midst it ends
        use(b, "class C{int v;C n;}main{C c=null;while(true)1;}");
        good = plain(b).nums(0, 1, 0, 2, 1, 2, 0, 0, 5, 2, 0, 0, 6, 1).packed();
        for (int n = 12; n < good.length; n++) {
            fault(b, Arrays.copyOf(good, n), 1, n, n + " bytes");
        }
        comes(b, 4, good, "all bytes");
    }

    /** "or go on behind the end (place: .. the first too many)"; "The eight bytes are asked last." */
    private static void goesOnBehindTheEnd(Bench b) {
        use(b, PLAIN);
        byte[] good = plain(b).nums(0, 1, 0, 2, 5, 0).packed();
        for (int more : new int[] {1, 2, 8, 20, 100}) {
            fault(b, Arrays.copyOf(good, good.length + more), 1, good.length, more + " more");
        }
        for (int i = 1; i <= 8; i++) {
            byte[] other = Arrays.copyOf(good, good.length + 1);
            other[good.length - i] ^= 1;
            fault(b, other, 1, good.length, "one more, and another sum");
        }
        comes(b, 4, good, "all bytes");
    }

    /** "2 84, 82 .. are others". */
    private static void firstBytes(Bench b) {
        use(b, PLAIN);
        byte[] good = plain(b).nums(0, 1, 0, 2, 5, 0).packed();
        for (int v : new int[] {0, 83, 85, 82, 255}) {
            byte[] other = good.clone();
            other[0] = (byte) v;
            fault(b, other, 2, 0, "first " + v);
        }
        for (int v : new int[] {0, 81, 83, 84, 255}) {
            byte[] other = good.clone();
            other[1] = (byte) v;
            fault(b, other, 2, 1, "second " + v);
        }
        byte[] both = good.clone();
        both[0] = 82;
        both[1] = 84;
        fault(b, both, 2, 0, "both");
        fault(b, new byte[] {83}, 2, 0, "one other byte");
        fault(b, new byte[] {84}, 1, 1, "84 alone");
        fault(b, new byte[] {84, 81}, 2, 1, "84, 81");
        fault(b, new byte[] {84, 82}, 1, 2, "84, 82");
        fault(b, new byte[0], 1, 0, "nothing");
    }

    /** "2 .. the eight bytes at the end (their first), are others". */
    private static void sums(Bench b) {
        use(b, PLAIN);
        byte[] good = plain(b).nums(0, 1, 0, 2, 5, 0).packed();
        for (int i = 1; i <= 8; i++) {
            for (int bit : new int[] {1, 128}) {
                byte[] other = good.clone();
                other[good.length - i] ^= bit;
                fault(b, other, 2, good.length - 8, "byte " + -i + " of the sum");
            }
        }
        // a number that could be: only the sum tells that it is another one
        byte[] other = good.clone();
        other[good.length - 8 - 2] ^= 2;
        fault(b, other, 2, good.length - 8, "another slot");
        // the fault of a number goes ahead, whatever the sum is
        other = good.clone();
        other[2] ^= 4;
        fault(b, other, 4, 2, "another number that can't be");
    }

    private static void edge(Bench b, int[] good, int at, int value, boolean fine) {
        int[] nums = good.clone();
        nums[at] = value;
        Bytes all = new Bytes().nums(nums);
        String what = "NUM " + at + " as " + value;
        if (fine) {
            comes(b, 4, all.packed(), what);
        } else {
            fault(b, all.packed(), 4, new Bytes().nums(Arrays.copyOf(good, at)).size(), what);
        }
    }

    private static final int MOST = Integer.MAX_VALUE;
    private static final int LEAST = Integer.MIN_VALUE;

    /** Host 4 has the programs 0, 5 and 7. */
    private static void eightPrograms(Bench b) {
        b.fresh();
        for (int p = 0; p < 8; p++) {
            b.read(PLAIN);
        }
        b.x.give(4, 0);
        b.x.give(4, 5);
        b.x.give(4, 7);
        b.x.give(3, 1);
    }

    /** "not 0 or 1 whether on its way; no such program here, or another sum, traveller or MOVES or steps or CALLS or LINES below 0 or (traveller) above 29". */
    private static void heads(Bench b) {
        use(b, EdgePackTest::eightPrograms);
        int sum = b.x.program(0, 3);
        int[] good = {0, 0, sum, 0, 0, 0, 0, 0, 1, 0, 2, 5, 0};
        for (int way : new int[] {LEAST, -1, 1, 2, MOST}) {
            edge(b, good, 0, way, false);
        }
        for (int p : new int[] {LEAST, -1, 0, 1, 4, 5, 6, 7, 8, 9, 31, 32, 33, MOST}) {
            edge(b, good, 1, p, p == 0 || p == 5 || p == 7);
        }
        for (int other : new int[] {LEAST, -1, 0, sum - 1, sum, sum + 1, sum + 65536, sum - 65536, MOST}) {
            edge(b, good, 2, other, other == sum);
        }
        use(b, PLAIN);
        for (int t : new int[] {LEAST, -1, 0, 1, 28, 29, 30, 31, MOST}) {
            edge(b, good, 3, t, t >= 0 && t <= 29);
        }
        for (int at = 4; at <= 6; at++) {
            for (int n : new int[] {LEAST, -1, 0, 1, MOST}) {
                edge(b, good, at, n, n >= 0);
            }
        }
        for (int n : new int[] {LEAST, -1, 0}) {
            edge(b, good, 7, n, n >= 0);
        }
        for (int n : new int[] {LEAST, -1, 0, 13, 14, MOST}) {
            edge(b, good, 8, n, false);
        }
        for (int m : new int[] {LEAST, -1, 1, MOST}) {
            edge(b, good, 9, m, false);
        }
    }

    /** "LINES in all and those that are kept (each)": 60 of them at most. */
    private static void linesKept(Bench b) {
        use(b, PLAIN);
        for (int n : new int[] {0, 1, 59, 60, 61, 1000, MOST}) {
            Bytes all = plain(b).nums(n);
            for (int i = 0; i < Math.min(n, 60); i++) {
                all.nums(i + 5);
            }
            b.feed(all.nums(1, 0, 2, 5, 0).packed());
            int t = b.come(4);
            b.due("come with " + n, t >= 0, true);
            b.due("LINES", b.x.traveller(t, 4, 4), n);
            b.due("the first", b.x.line(t, 4, 0), n > 0 ? 5 : 0);
            b.due("the sixtieth", b.x.line(t, 4, 59), n >= 60 ? 64 : 0);
            b.due("no more", b.x.line(t, 4, 60), 0);
        }
        // sixty-one of them: the last one is taken for the number of frames
        Bytes all = plain(b).nums(61);
        for (int i = 0; i < 60; i++) {
            all.nums(5);
        }
        int place = all.size();
        fault(b, all.nums(99).nums(1, 0, 2, 5, 0).packed(), 4, place, "61 LINES");
    }

    private static final String ALL = "class D{bool w;far D f;}class C{int v;D d;C n;int[] r;}main{bool t=true;int i=0;C c=null;D d=null;int[] r=null;far D f=null;"
        + "while(true)1;}";

    /** Of ALL: main at the top of its loop. The slots are NUMs 11 to 16, then how many there are. */
    private static int[] all(Bench b, int... rest) {
        int[] nums = Arrays.copyOf(new int[] {0, 0, b.x.program(0, 3), 0, 0, 0, 0, 0, 1, 0, 12}, 11 + rest.length);
        System.arraycopy(rest, 0, nums, 11, rest.length);
        return nums;
    }

    /** "a bool (slot, field, or on a stack) that is not 0 or 1". */
    private static void bools(Bench b) {
        use(b, ALL);
        int[] good = all(b, 1, 7, 0, 1, 0, 0, 1, 0, 0, 1, 0);
        for (int v : new int[] {LEAST, -1, 0, 1, 2, MOST}) {
            edge(b, good, 11, v, v == 0 || v == 1);
            edge(b, good, 12, v, true);
            edge(b, good, 20, v, v == 0 || v == 1);
        }
        // on a stack: the left side of == while its right side is made
        use(b, "main{bool a=true;bool c=a==(get 1==2);while(true)1;}");
        good = new int[] {0, 0, b.x.program(0, 3), 0, 3, 0, 0, 0, 1, 0, 3, 1, 0, 1, 0};
        for (int v : new int[] {LEAST, -1, 0, 1, 2, MOST}) {
            edge(b, good, 13, v, v == 0 || v == 1);
        }
    }

    /** "a reference below 0, above how many are met so far and one, .. or to one of another TYPE than it was first met as". */
    private static void references(Bench b) {
        use(b, ALL);
        // slots t, i, c, d, r, f, how many, then C with v, d, n, r
        int[] good = all(b, 1, 7, 1, 0, 0, 0, 1, 0, 1, 5, 0, 1, 0);
        for (int v : new int[] {LEAST, -1, 2, 3, 40, 41, MOST}) {
            edge(b, good, 13, v, false);
        }
        comes(b, 4, new Bytes().nums(good).packed(), "1 of 1");
        // d: 1 is a C
        for (int v : new int[] {-1, 1, 3}) {
            edge(b, good, 14, v, false);
        }
        for (int v : new int[] {-1, 1, 3}) {
            edge(b, good, 15, v, false);
        }
        // the fields d, n, r of the C: no more than one was told
        for (int v : new int[] {-1, 1, 2, 3}) {
            edge(b, good, 21, v, false);
        }
        for (int v : new int[] {-1, 2, 3}) {
            edge(b, good, 22, v, false);
        }
        for (int v : new int[] {0, 1}) {
            edge(b, good, 22, v, true);
        }
        for (int v : new int[] {-1, 1, 2}) {
            edge(b, good, 23, v, false);
        }
        // met in fields, by their numbers: a second C, its D and its ROW
        use(b, ALL);
        comes(b, 4, new Bytes().nums(all(b, 0, 0, 1, 0, 0, 0, 4, 0, 1, 5, 0, 2, 0, 0, 1, 6, 3, 1, 4, 0, 0, 1, 0, 1, 2, 8, 9)).packed(), "four");
        comes(b, 4, new Bytes().nums(all(b, 0, 0, 1, 2, 3, 0, 3, 0, 1, 5, 2, 1, 3, 0, 0, 0, 0, 1, 0)).packed(), "three");
        // of another TYPE than it was first met as: 2 is a D there
        int[] three = all(b, 0, 0, 1, 2, 3, 0, 3, 0, 1, 5, 2, 1, 3, 0, 0, 0, 0, 1, 0);
        edge(b, three, 21, 3, false);
        edge(b, three, 21, 1, false);
        edge(b, three, 22, 2, false);
        edge(b, three, 22, 3, false);
        edge(b, three, 23, 1, false);
        edge(b, three, 23, 2, false);
        edge(b, three, 23, 0, true);
    }

    /** "a THING's host not 0 .. 4, its number not 0 .. 19"; "a THING 0 (null), or 1 more than its host, and its number". */
    private static void things(Bench b) {
        use(b, ALL);
        int[] good = all(b, 0, 0, 0, 0, 0, 1, 0, 0);
        for (int h : new int[] {LEAST, -1, 1, 2, 5, 6, 7, MOST}) {
            edge(b, good, 16, h, h >= 1 && h <= 5);
        }
        for (int n : new int[] {LEAST, -1, 0, 1, 18, 19, 20, 21, MOST}) {
            edge(b, good, 17, n, n >= 0 && n <= 19);
        }
        comes(b, 4, new Bytes().nums(all(b, 0, 0, 0, 0, 0, 0, 0)).packed(), "null");
        // in a field
        int[] inField = all(b, 0, 0, 0, 1, 0, 0, 1, 0, 0, 1, 1, 0);
        use(b, ALL);
        for (int h : new int[] {-1, 1, 5, 6}) {
            edge(b, inField, 21, h, h >= 1 && h <= 5);
        }
        for (int n : new int[] {-1, 0, 19, 20}) {
            edge(b, inField, 22, n, n >= 0 && n <= 19);
        }
        // told as 64 * host + number
        for (int h = 0; h < 5; h += 4) {
            for (int n = 0; n < 20; n += 19) {
                b.feed(new Bytes().nums(all(b, 0, 0, 0, 0, 0, h + 1, n, 0)).packed());
                int t = b.come(3);
                b.due("value", b.x.value(t, 3, 0, 5), 64 * h + n);
            }
        }
        b.feed(new Bytes().nums(all(b, 0, 0, 0, 0, 0, 0, 0)).packed());
        b.due("null", b.x.value(b.come(3), 3, 0, 5), -1);
    }

    /** "how many OBJECTS and ROWS: below those that were met, or above 40"; "an OBJECT or ROW that was not met (at its beginning)". */
    private static void howMany(Bench b) {
        use(b, ALL);
        int[] two = all(b, 0, 0, 1, 2, 0, 0, 2, 0, 1, 5, 0, 0, 0, 0, 0, 1, 0);
        for (int n : new int[] {LEAST, -1, 0, 1, 41, 42, MOST}) {
            edge(b, two, 17, n, false);
        }
        comes(b, 4, new Bytes().nums(two).packed(), "two");
        // a third one that nobody has
        Bytes more = new Bytes().nums(all(b, 0, 0, 1, 2, 0, 0, 3, 0, 1, 5, 0, 0, 0, 0, 0, 1, 0));
        int place = more.size();
        fault(b, more.nums(0, 1, 0, 0, 0, 0).packed(), 4, place, "a third one");
        more = new Bytes().nums(all(b, 0, 0, 1, 2, 0, 0, 40, 0, 1, 5, 0, 0, 0, 0, 0, 1, 0));
        place = more.size();
        fault(b, more.nums(0, 1, 0, 0, 0, 0).packed(), 4, place, "forty");
        // none, when none was met
        int[] none = all(b, 0, 0, 0, 0, 0, 0, 0);
        comes(b, 4, new Bytes().nums(none).packed(), "none");
        edge(b, none, 17, -1, false);
        more = new Bytes().nums(all(b, 0, 0, 0, 0, 0, 0, 1));
        place = more.size();
        fault(b, more.nums(0, 1, 0, 0, 0, 0).packed(), 4, place, "one that was not met");
    }

    /** "an OBJECT or ROW .. of the other sort, of another class than it was met as". */
    private static void sorts(Bench b) {
        use(b, ALL);
        int[] good = all(b, 0, 0, 1, 2, 3, 0, 3, 0, 1, 5, 0, 0, 0, 0, 0, 1, 0, 1, 1, 9);
        comes(b, 4, new Bytes().nums(good).packed(), "three");
        for (int v : new int[] {LEAST, -1, 1, 2, MOST}) {
            edge(b, good, 18, v, false);
            edge(b, good, 24, v, false);
        }
        for (int v : new int[] {LEAST, -1, 0, 2, MOST}) {
            edge(b, good, 28, v, false);
        }
        use(b, ALL);
        for (int v : new int[] {LEAST, -1, 0, 2, 3, MOST}) {
            edge(b, good, 19, v, false);
        }
        for (int v : new int[] {LEAST, -1, 1, 2, MOST}) {
            edge(b, good, 25, v, false);
        }
    }

    /** "a length not 0 .. 100". */
    private static void lengths(Bench b) {
        use(b, ALL);
        for (int n : new int[] {0, 1, 2, 99, 100, 101, 102}) {
            Bytes row = new Bytes().nums(all(b, 0, 0, 0, 0, 1, 0, 1, 1));
            int place = row.size();
            row.nums(n);
            for (int i = 0; i < n; i++) {
                row.nums(i - 50);
            }
            if (n <= 100) {
                b.feed(row.packed());
                int t = b.come(3);
                b.due("length", b.x.cell(t, 3, 0, -2), n);
                b.due("the first", b.x.cell(t, 3, 0, 0), n > 0 ? -50 : 0);
                b.due("the last", b.x.cell(t, 3, 0, n - 1), n == 0 ? -2 : n - 51);
                b.due("none", b.x.cell(t, 3, 0, n), 0);
            } else {
                fault(b, row.packed(), 4, place, "length " + n);
            }
        }
        for (int n : new int[] {LEAST, -1, MOST}) {
            Bytes row = new Bytes().nums(all(b, 0, 0, 0, 0, 1, 0, 1, 1));
            int place = row.size();
            fault(b, row.nums(n).packed(), 4, place, "length " + n);
        }
    }

    private static Bytes row(Bytes all, int length) {
        all.nums(1, length);
        for (int i = 0; i < length; i++) {
            all.nums(0);
        }
        return all;
    }

    /** "cells above 300 (at the class or length)". */
    private static void cells(Bench b) {
        use(b, "class C{int a;int c;}class E{}main{int[] p=null;int[] q=null;int[] r=null;C c=null;E e=null;int[] s=null;while(true)1;}");
        int[] head = {0, 0, b.x.program(0, 3), 0, 0, 0, 0, 0, 1, 0, 12};
        for (int third = 96; third <= 100; third++) {
            for (int last = 0; last <= 2; last++) {
                // three ROWS, a C with two fields, an E without, and one more ROW
                Bytes all = new Bytes().nums(head).nums(1, 2, 3, 4, 5, 6, 6);
                row(row(row(all, 100), 100), third);
                all.nums(0);
                int atClass = all.size();
                all.nums(0, 0, 0, 0, 1, 1);
                int atLength = all.size();
                all.nums(last);
                for (int i = 0; i < last; i++) {
                    all.nums(0);
                }
                int cells = 200 + third + 2;
                if (cells > 300) {
                    fault(b, all.packed(), 4, atClass, "a class too much");
                } else if (cells + last > 300) {
                    fault(b, all.packed(), 4, atLength, "a ROW too much");
                } else {
                    comes(b, 4, all.packed(), cells + last + " cells");
                }
            }
        }
    }

    /** "above 40 (or how many there are, when that is told)": a chain of OBJECTS. */
    private static void forty(Bench b) {
        use(b, "class C{C n;}main{C c=null;while(true)1;}");
        int[] head = {0, 0, b.x.program(0, 3), 0, 0, 0, 0, 0, 1, 0, 2, 1};
        for (int n : new int[] {1, 2, 39, 40, 41}) {
            for (int told = n - 1; told <= n + 1; told++) {
                Bytes all = new Bytes().nums(head);
                int atTold = all.size();
                all.nums(told);
                int atLast = 0;
                int atEnd = 0;
                for (int i = 0; i < n; i++) {
                    all.nums(0, 0);
                    atLast = i == told - 1 ? all.size() : atLast;
                    all.nums(i == n - 1 ? 0 : i + 2);
                    atEnd = all.size();
                }
                String what = n + " in a chain, told as " + told;
                if (told < 1 || told > 40) {
                    fault(b, all.packed(), 4, atTold, what);
                } else if (told == n) {
                    comes(b, 3, all.packed(), what);
                } else if (told < n) {
                    fault(b, all.packed(), 4, atLast, what);
                } else {
                    fault(b, all.packed(), 4, atEnd, what);
                }
            }
        }
    }

    /** What was met in earlier bytes is not met in these. */
    private static void metBefore(Bench b) {
        use(b, "class C{C n;}main{C c=null;C d=null;while(true)1;}");
        int[] head = {0, 0, b.x.program(0, 3), 0, 0, 0, 0, 0, 1, 0, 4};
        byte[] three = new Bytes().nums(head).nums(1, 2, 3, 0, 0, 2, 0, 0, 3, 0, 0, 0).packed();
        int first = new Bytes().nums(head).size();
        for (int n = 2; n <= 4; n++) {
            comes(b, 4, new Bytes().nums(head).nums(1, 2, 3, 0, 0, 2, 0, 0, 3, 0, 0, 0).packed(), "three");
            fault(b, new Bytes().nums(head).nums(n, 0, n, 0, 0, 0).packed(), 4, first, "the first as " + n);
            comes(b, 4, three, "three");
            fault(b, new Bytes().nums(head).nums(1, n + 1, 3, 0, 0, 0).packed(), 4, first + 1, "the second as " + (n + 1));
            comes(b, 4, three, "three");
            fault(b, new Bytes().nums(head).nums(1, 1, 4, 0, 0, n + 1).packed(), 4, first + 5, "in a field " + (n + 1));
        }
    }

    /** "above 40" while it is not told yet: thirty slots of main, and thirty-one of a method. */
    private static void fortyMetInSlots(Bench b) {
        StringBuilder locals = new StringBuilder();
        for (int i = 0; i < 30; i++) {
            locals.append("C n").append(i).append("=null;");
        }
        use(b, "class C{int m(){" + locals + "while(true)1;}}main{" + locals + "n0.m();}");
        int loop = 60;
        int call = b.x.method(0, 1, 3) + 61;
        b.due("CALL", b.x.instruction(0, call, 0), 11);
        for (int most = 38; most <= 42; most++) {
            Bytes all = new Bytes().nums(0, 0, b.x.program(0, 3), 0, 0, 0, 0, 0, 2, 1, call + 1);
            int at = 0;
            for (int i = 1; i <= 61; i++) {
                if (i == 31) {
                    all.nums(0, loop);
                }
                at = i == 41 ? all.size() : at;
                all.nums(Math.min(i, most));
            }
            all.nums(Math.min(most, 40));
            for (int i = 0; i < Math.min(most, 40); i++) {
                all.nums(0, 0);
            }
            if (most <= 40) {
                comes(b, 3, all.packed(), most + " in slots");
            } else {
                fault(b, all.packed(), 4, at, most + " in slots");
            }
        }
    }

    private static final String DEEP = "class C{int m(int k){return m(k);}int n(){return 1;}}main{return new C.m(1);}";

    /** m's frame behind its CALL, or, as the uppermost one, at its beginning. */
    private static Bytes deep(Bench b, int frames) {
        Bytes all = new Bytes().nums(0, 0, b.x.program(0, 3), 0, 0, 0, 0, 0, frames, 2);
        int main = b.x.method(0, 2, 3);
        all.nums(frames == 1 ? main : main + 3);
        for (int i = 1; i < frames; i++) {
            all.nums(0, i == frames - 1 ? 0 : 3, 1, i);
        }
        return frames == 1 ? all.nums(0) : all.nums(1, 0, 0);
    }

    /** "frames not 1 .. 12". */
    private static void frames(Bench b) {
        use(b, DEEP);
        for (int n : new int[] {1, 2, 11, 12}) {
            haveRoom(b, 3, 200);
            b.feed(deep(b, n).packed());
            int t = b.come(3);
            b.due("come with " + n, t >= 0, true);
            b.due("frames", b.x.traveller(t, 3, 5), n);
            b.due("the uppermost one's place", b.x.frame(t, 3, n - 1, 1), n == 1 ? b.x.method(0, 2, 3) : 0);
            b.due("none", b.x.frame(t, 3, n, 0), -1);
            if (n == 12) {
                b.step(3, 3);
                b.due("no ROOM for one more", b.x.traveller(t, 3, 6), -4);
            }
        }
        int place = new Bytes().nums(0, 0, b.x.program(0, 3), 0, 0, 0, 0, 0).size();
        for (int n : new int[] {13, 14}) {
            fault(b, deep(b, n).packed(), 4, place, n + " frames");
        }
    }

    /** "the lowest frame's method not main, others' not that of the CALL ahead of the place of the one beneath". */
    private static void methods(Bench b) {
        use(b, DEEP);
        int main = b.x.method(0, 2, 3);
        int[] good = {0, 0, b.x.program(0, 3), 0, 0, 0, 0, 0, 2, 2, main + 3, 0, 0, 1, 5, 1, 0, 0};
        comes(b, 3, new Bytes().nums(good).packed(), "two frames");
        for (int m : new int[] {LEAST, -1, 0, 1, 3, MOST}) {
            edge(b, good, 9, m, false);
        }
        for (int m : new int[] {LEAST, -1, 1, 2, 3, MOST}) {
            edge(b, good, 11, m, false);
        }
    }

    private static final String WAYS = "class C{int v;bool w;C n;far C f;int[] r;int m(int k,bool t){if(t){return 1;}else raise k;}C o(){return n;}}"
        + "main{C c=new C;int i=3;bool t=true;far C f=pin c;int[] r=new int[4];"
        + "i=1+(2+c.m(i*2,t&&i<5));c.o().o().v=c.m(1,!t)+r[c.m(0,t)];try{r[1]=f.m(2,t);c.n=c.o();while(i<9){i=i+c.o().v;if(i==7)return c.m(1,t);}}"
        + "catch(e){put e,get e;go (i%5);twin;raise e;}t=c.o()==null||f!=null;return here+self;}";

    /** "a place that is not in the method, or that no way leads to from its beginning"; stacks are as high as the code has them there. */
    private static void places(Bench b) {
        use(b, WAYS);
        int main = b.x.method(0, 2, 3);
        int end = b.x.program(0, 2);
        int sum = b.x.program(0, 3);
        int reached = 0;
        int at = new Bytes().nums(0, 0, sum, 0, 0, 0, 0, 0, 1, 2).size();
        for (int place = main - 2; place <= end + 1; place++) {
            haveRoom(b, 3, 100);
            int high = b.x.instruction(0, place, 4);
            Bytes all = new Bytes().nums(0, 0, sum, 0, 0, 0, 0, 0, 1, 2, place);
            // null, 0 and false may lie anywhere
            for (int k = 0; k < b.x.method(0, 2, 2) + Math.max(0, high); k++) {
                all.nums(0);
            }
            byte[] bytes = all.nums(0).packed();
            if (place >= main && high >= 0) {
                comes(b, 3, bytes, "place " + place);
                reached++;
            } else {
                fault(b, bytes, 4, at, "place " + place);
            }
        }
        b.due("most can be reached", reached > 100 && reached < end - main, true);
        for (int place : new int[] {LEAST, -1, 0, MOST}) {
            fault(b, new Bytes().nums(0, 0, sum, 0, 0, 0, 0, 0, 1, 2, place).nums(0, 0, 0, 0, 0, 0, 0).packed(), 4, at, "place " + place);
        }
    }

    /** "of frames beneath none behind a CALL"; "a frame beneath: without what its CALL took and answers". */
    private static void placesBeneath(Bench b) {
        use(b, WAYS);
        int main = b.x.method(0, 2, 3);
        int end = b.x.program(0, 2);
        int sum = b.x.program(0, 3);
        int behind = 0;
        int at = new Bytes().nums(0, 0, sum, 0, 0, 0, 0, 0, 2, 2).size();
        for (int place = main; place < end; place++) {
            haveRoom(b, 3, 100);
            boolean call = place > main && b.x.instruction(0, place - 1, 0) == 11;
            Bytes all = new Bytes().nums(0, 0, sum, 0, 0, 0, 0, 0, 2, 2, place);
            int slots = b.x.method(0, 2, 2);
            if (call) {
                int arguments = b.x.instruction(0, place - 1, 2);
                int method = b.x.instruction(0, place - 1, 1);
                int high = b.x.instruction(0, place - 1, 4) - arguments - 1;
                for (int k = 0; k < slots + high; k++) {
                    all.nums(0);
                }
                all.nums(method, b.x.method(0, method, 3));
                for (int k = 0; k < b.x.method(0, method, 2); k++) {
                    all.nums(0);
                }
                comes(b, 3, all.nums(0).packed(), "behind the CALL at " + (place - 1));
                behind++;
            } else {
                for (int k = 0; k < slots + 3; k++) {
                    all.nums(0);
                }
                fault(b, all.packed(), 4, at, "not behind a CALL, " + place);
            }
        }
        b.due("CALLs", behind, 9);
    }

    private static final String RUN = "class C{int v;bool w;C n;far C f;int[] r;int m(int k,bool t){v=v+k;w=!t;n=this;r=new int[k];if(t||w&&t)return 1+(v+n.v);"
        + "try{return 2+o(k==v,n==null,k);}catch(e){return r.length+e;}}int o(bool a,bool c,int k){f=null;if(a!=c)raise k;return 3-r[k-1]*(k%2);}}"
        + "main{C c=new C;far C g=pin c;c.f=g;int i=1+c.m(2,true);i=i+c.m(3,c.w||false)*2;bool z=(g!=c.f)==(i<3);c.r[1]=c.n.r[0]+-i;"
        + "print 1+(2+get i);put i,c.o(z,!z,1);while(true)1;}";

    /** Wherever it is, what is PACKED can be UNPACKED, and is then the same. */
    private static void eachStep(Bench b) {
        maker = x -> x.begin(RUN);
        for (int n = 0; n < 150; n++) {
            b.begin(RUN);
            b.step(0, n);
            byte[] bytes = b.packed(0, 0);
            b.feed(bytes);
            b.due("it comes, behind " + n + " steps", b.come(3), 1);
            byte[] again = b.packed(1, 3);
            b.due("as long", again.length, bytes.length);
            boolean same = true;
            for (int k = 0; k < bytes.length - 8 && k < again.length; k++) {
                // behind 84, 82, whether it is on its way, the program and its sum stands its number
                same = same && (again[k] == bytes[k] || again[k] == 2 && bytes[k] == 0 && k <= 8);
            }
            b.due("the same bytes behind " + n + " steps", same, true);
        }
        b.due("it is in its loop then", b.x.traveller(0, 0, 5), 1);
        b.due("and printed", b.x.traveller(0, 0, 4), 1);
    }

    private static final String STACK = "class D{}class C{int v;bool w;C n;int[] r;far C g;int i(int e,int k){return k;}int t(bool e,int k){return k;}int c(C e,int k){return k;}"
        + "int q(int[] e,int k){return k;}int f(far C e,int k){return k;}int in(){return 1;}bool bo(){return true;}C ob(){return this;}int[] ro(){return r;}far C th(){return g;}}"
        + "main{C c=null;far C g=null;int i=0;bool b=false;int[] r=null;D d=null;";

    /**
     * "(Stacks .. have the KINDS and TYPES, as the code has them there ..)": at the 7777 of c.m(E, 7777), with c and E on the stack; in slots 1 was met
     * as a C, 2 as a ROW, 3 as a D.
     */
    private static void onStack(Bench b, String method, String e, int... fine) {
        use(b, STACK + "c." + method + "(" + e + ",7777);}");
        int place = b.x.program(0, 2) - 1;
        while (place > 0 && b.x.instruction(0, place, 1) != 7777) {
            place--;
        }
        onStackAt(b, place, method, e, fine);
    }

    /** In the midst of && or ||, at that instruction from the end. */
    private static void inTheMidst(Bench b, String e, int operation) {
        use(b, STACK + "c.t(" + e + ",7777);}");
        int place = b.x.program(0, 2) - 1;
        while (place > 0 && b.x.instruction(0, place, 0) != operation) {
            place--;
        }
        onStackAt(b, place, "t", e, 0, 1);
    }

    private static void onStackAt(Bench b, int place, String method, String e, int... fine) {
        int main = b.x.program(0, 1) - 1;
        for (int value : new int[] {-1, 0, 1, 2, 3, 5, 6, MOST}) {
            Bytes all = new Bytes().nums(0, 0, b.x.program(0, 3), 0, 0, 0, 0, 0, 1, main, place, 1, 0, 0, 0, 2, 3, 1);
            int at = all.size();
            all.nums(value);
            if (method.equals("f") && value > 0) {
                // the number of a THING stands behind its host
                all.nums(19);
            }
            all.nums(3, 0, 1, 0, 0, 0, 0, 0, 1, 0, 0, 0);
            String what = e + " on the stack as " + value;
            if (Arrays.stream(fine).anyMatch(x -> x == value)) {
                comes(b, 4, all.packed(), what);
            } else {
                fault(b, all.packed(), 4, at, what);
            }
        }
    }

    private static void typesOnStacks(Bench b) {
        for (String e : new String[] {"1", "i", "c.v", "r[0]", "r.length", "here", "self", "twin", "get 1", "-i", "i+1", "i-1", "i*1", "i/1", "i%1", "c.in()", "g.in()"}) {
            onStack(b, "i", e, -1, 0, 1, 2, 3, 5, 6, MOST);
        }
        for (String e : new String[] {"true", "false", "b", "c.w", "!b", "go i", "i<1", "i<=1", "i>1", "i>=1", "i==1", "i!=1", "b==b", "b!=b", "c==c", "c!=null", "g==g",
            "null!=g", "r==r", "b&&b", "b||b", "b&&b||b", "b||b&&b", "c.bo()", "g.bo()"}) {
            onStack(b, "t", e, 0, 1);
        }
        for (String e : new String[] {"c", "c.n", "c.ob()", "new C"}) {
            onStack(b, "c", e, 0, 1);
        }
        for (String e : new String[] {"r", "c.r", "c.ro()", "new int[1]"}) {
            onStack(b, "q", e, 0, 2);
        }
        for (String e : new String[] {"g", "c.g", "c.th()", "pin c"}) {
            onStack(b, "f", e, 0, 1, 2, 3, 5);
        }
        for (String method : new String[] {"c", "q", "f"}) {
            onStack(b, method, "null", 0);
        }
        for (String e : new String[] {"b||b", "b&&b", "b||b||b", "b&&b&&b", "i<1||b", "b&&i<1", "c.bo()||b", "b&&g.bo()"}) {
            inTheMidst(b, e, 16);
            inTheMidst(b, e, 17);
        }
    }

    /** "of a null without a TYPE anything but 0". */
    private static void nullsOnStacks(Bench b) {
        use(b, "class C{C n;far C f;int m(C c,far C f,int[] r,int k){return k;}}main{C c=new C;return c.m(null,null,null,get 1);}");
        int sum = b.x.program(0, 3);
        b.step(0, 7);
        int place = b.x.frame(0, 0, 0, 1);
        int[] good = {0, 0, sum, 0, 7, 0, 0, 0, 1, 1, place, 1, 1, 0, 0, 0, 1, 1, 0, 0, 0, 0};
        b.due("bytes", Arrays.toString(b.packed(0, 0)), Arrays.toString(new Bytes().nums(good).packed()));
        comes(b, 4, new Bytes().nums(good).packed(), "nulls");
        for (int at = 13; at <= 15; at++) {
            for (int v : new int[] {LEAST, -1, 1, 2, MOST}) {
                edge(b, good, at, v, false);
            }
        }
        for (int v : new int[] {LEAST, -1, 0, 2, MOST}) {
            edge(b, good, 16, v, true);
        }
        for (int k = 2; k < 5; k++) {
            b.due("told as NONE", b.x.value(0, 0, 0, k), -1);
        }
    }

    /** "what is told there as being on its way is a fault (4) here"; the bytes of one that is: 1, MOVES with the one that it is on. */
    private static void onItsWay(Bench b) {
        use(b, "main{int i=4;i=i+1;go 2;while(true)1;}");
        b.step(0, 6);
        int sum = b.x.program(0, 3);
        b.due("ahead of GO", Arrays.toString(b.packed(0, 0)), Arrays.toString(new Bytes().nums(0, 0, sum, 0, 6, 0, 0, 0, 1, 0, 6, 5, 0).packed()));
        b.step(0, 1);
        b.due("at GO", Arrays.toString(b.packed(0, 0)), Arrays.toString(new Bytes().nums(0, 0, sum, 0, 7, 0, 0, 0, 1, 0, 7, 5, 2, 0).packed()));
        b.step(0, 1);
        byte[] way = new Bytes().nums(1, 0, sum, 0, 8, 1, 0, 0, 1, 0, 7, 5, 0).packed();
        b.due("OFFERED", Arrays.toString(b.packed(0, 0)), Arrays.toString(way));
        fault(b, way, 4, 2, "one that is on its way");
        b.x.pass(0, 2);
        b.x.pass(2, 0);
        b.due("SENT", Arrays.toString(b.packed(0, 0)), Arrays.toString(way));
        b.x.pass(0, 2);
        b.settle(0, 2);
        b.due("behind GO", Arrays.toString(b.packed(0, 2)), Arrays.toString(new Bytes().nums(0, 0, sum, 0, 8, 1, 0, 0, 1, 0, 8, 5, 1, 0).packed()));
    }

    /** Promise 29: "with a new number (MOVES and CALLS 0)", "IllegalStateException: as of start(), but for the program; the tape stays." */
    private static void comes(Bench b) {
        use(b, PLAIN);
        byte[] good = new Bytes().nums(0, 0, b.x.program(0, 3), 29, 11, 12, 13, 2, 5, 6, 1, 0, 2, 9, 0).packed();
        int kept = b.x.host(2, 4);
        b.feed(good);
        b.due("come", b.come(2), 1);
        int[] want = {0, 11, 0, 0, 2, 1, 0, -1, 0, 0, 0};
        for (int what = 0; what < want.length; what++) {
            b.due("traveller " + what, b.x.traveller(1, 2, what), want[what]);
        }
        b.due("kept", b.x.host(2, 4), kept + 1);
        b.due("the tape is empty then", b.x.count(0), 0);
        b.due("SELF is the new number", b.x.traveller(29, 2, 0), -1);
        // refused ones: the tape stays, place() too
        fault(b, new byte[] {84}, 1, 1, "a fault");
        b.due("the tape is empty then", b.x.count(0), 0);
        b.feed(good);
        for (int h : new int[] {LEAST, -1, 5, MOST}) {
            b.due("no such host", b.come(h), Bench.ILLEGAL_ARGUMENT);
        }
        b.x.power(1, 1);
        b.due("DOWN", b.come(1), Bench.ILLEGAL_STATE);
        for (int i = 0; i < 7; i++) {
            b.start(0, 2);
        }
        b.due("eight", b.come(2), Bench.ILLEGAL_STATE);
        b.due("the tape stays", b.x.count(0), good.length);
        b.due("place stays", b.x.place(), 1);
        b.due("nobody came", b.x.count(2), 9);
        b.due("come", b.come(3), 9);
        b.due("without one", b.x.place(), -1);
        // with seven there it comes; without the program it is a fault
        for (int i = 0; i < 6; i++) {
            b.start(0, 3);
        }
        b.feed(good);
        b.due("an eighth", b.come(3), 16);
        b.feed(good);
        b.due("a ninth", b.come(3), Bench.ILLEGAL_STATE);
        b.fresh();
        b.read(PLAIN);
        b.feed(good);
        b.due("without the program", b.come(0), -5);
        b.due("its place", b.x.place(), 3);
        b.due("the tape is empty then", b.x.count(0), 0);
        b.due("of the latest come", b.come(0), -2);
        b.due("its place", b.x.place(), 0);
    }

    /** Promises 27, 28: "OUT becomes ..", "Byte k of OUT; NONE if there is none such", "NONE, and OUT stays, if it is not so." */
    private static void outs(Bench b) {
        use(b, "main{go 1;return 1;}");
        b.due("no OUT", b.x.out(0), -1);
        b.due("no OUT", b.x.count(5), 0);
        int size = b.x.pack(0, 0);
        for (int k : new int[] {LEAST, -1, size, size + 1, 255, 256, MOST}) {
            b.due("out " + k, b.x.out(k), -1);
        }
        b.due("the first", b.x.out(0), 84);
        b.due("the second", b.x.out(1), 82);
        b.due("the last is one", b.x.out(size - 1) >= 0, true);
        b.due("bytes of OUT", b.x.count(5), size);
        for (int t : new int[] {LEAST, -1, 1, 29, 30, MOST}) {
            b.due("no such", b.x.pack(t, 0), -1);
        }
        for (int h : new int[] {LEAST, -1, 1, 4, 5, MOST}) {
            b.due("not there", b.x.pack(0, h), -1);
        }
        b.due("OUT stays", b.x.count(5), size);
        b.step(0, 2);
        int moved = b.x.pack(0, 0);
        b.due("OFFERED", moved, size);
        b.due("another byte", b.x.out(2), 2);
        // a shorter one leaves nothing of the longer one
        use(b, "main{int[] r=new int[90];r=null;while(true)1;}");
        b.step(0, 3);
        int longer = b.x.pack(0, 0);
        b.step(0, 2);
        int shorter = b.x.pack(0, 0);
        // without 1, the length in two bytes, and ninety elements
        b.due("shorter", shorter, longer - 93);
        b.due("none", b.x.out(shorter), -1);
        b.due("bytes of OUT", b.x.count(5), shorter);
    }
}
