/**
 * Terms 4, HOSTS: the sentences about MESSAGES that no run of calls brings onto a line, as hosts that keep to the
 * document never send them. They are put there past the face (support/Inside).
 *
 * Why none is sent: GO, NO, RELEASE and WHOLE each KEEP the host ahead of what goes, so a traveller's move has the same
 * bytes whenever its PARTs go; what it runs lets nothing become what UNPACK refuses; one that is COMING lacks a part as
 * long as it is COMING; and a move is OFFERED only where the traveller acted last, so that no host has it ACTING of an
 * earlier move.
 */
public final class EdgeInsideTest {
    private static final String GOES = "main{int[] r=new int[60];if(go 1)print 1;else print 2;while(true)1;}";

    private static final int WAY = 2;
    private static final int PROGRAM = 3;

    public static void main(String[] args) {
        Bench b = new Bench();
        partsAsTheyAre(b);
        partsOfOtherBytes(b);
        partsOfAnother(b);
        partsOfAnotherProgram(b);
        givenUpByParts(b);
        readyOfNone(b);
        offerToOneThatActs(b);
        offerToOneThatGoes(b);
        offerToOneThatWaits(b);
        offerToOneThatEnded(b);
        b.end();
    }

    private static void state(Bench b, int h, int want) {
        b.due("STATE at " + h, b.x.traveller(0, h, 0), want);
    }

    private static void said(Bench b, int h, int g, int i, String want) {
        b.due("MESSAGE " + i + " from " + h + " to " + g, b.said(h, g, i), want);
    }

    /** Traveller 0 is COMING to 1, without parts; the lines are empty. Its bytes. */
    private static byte[] coming(Bench b) {
        b.begin(GOES);
        b.step(0, 20);
        b.due("OFFER", b.x.pass(0, 1), 0);
        b.due("READY is lost", b.x.trouble(1, 0, 0), true);
        state(b, 1, 4);
        return b.packed(0, 0);
    }

    private static byte[] withSum(byte[] bytes) {
        byte[] with = bytes.clone();
        long sum = Bench.sum(with, with.length - 8);
        for (int i = 0; i < 8; i++) {
            with[with.length - 8 + i] = (byte) (sum >>> 56 - 8 * i);
        }
        return with;
    }

    private static byte[] changed(byte[] bytes, int at, int to) {
        byte[] with = bytes.clone();
        with[at] = (byte) to;
        return with;
    }

    /** Where the NUM behind so many others begins. */
    private static int numAt(byte[] bytes, int nums) {
        int at = 2;
        for (int i = 0; i < nums; i++) {
            while (bytes[at] < 0) {
                at++;
            }
            at++;
        }
        return at;
    }

    /** That these bytes, as parts of move 1, are the end of it. */
    private static void refused(Bench b, String what, byte[] bytes) {
        int kept = b.x.host(1, 4);
        int keptThere = b.x.host(0, 4);
        int place = b.x.frame(0, 0, 0, 1);
        Inside.putParts(b.x, 0, 1, 0, 1, bytes);
        int parts = b.x.count(3);
        for (int k = 0; k < parts - 1; k++) {
            b.x.pass(0, 1);
            b.due(what + ": taken", b.x.traveller(0, 1, 8), k + 1);
        }
        b.due(what + ": not yet", b.x.host(1, 4), kept);
        b.x.pass(0, 1);
        state(b, 1, -1);
        b.due(what + ": no more here", b.x.host(1, 1), 0);
        b.due(what + ": given up", b.x.host(1, 6), 1);
        b.due(what + ": KEPT", b.x.host(1, 4), kept + 1);
        said(b, 1, 0, 0, "2 0 1 3");
        said(b, 1, 0, 1, "-");
        b.x.pass(1, 0);
        state(b, 0, 0);
        b.due(what + ": behind its GO", b.x.frame(0, 0, 0, 1), place + 1);
        b.due(what + ": with false", b.x.value(0, 0, 0, 1), 0);
        b.due(what + ": KEPT", b.x.host(0, 4), keptThere + 1);
    }

    /** What is put there past the face is what goes else: of the right bytes it is HERE WHOLE. */
    private static void partsAsTheyAre(Bench b) {
        byte[] bytes = coming(b);
        int kept = b.x.host(1, 4);
        Inside.putParts(b.x, 0, 1, 0, 1, withSum(bytes));
        b.due("PARTs", b.passAll(0, 1), "33");
        state(b, 1, 5);
        b.due("KEPT", b.x.host(1, 4), kept + 1);
        said(b, 1, 0, 0, "4 0 1");
        b.due("none given up", b.x.host(1, 6), 0);
    }

    /** "bytes that can't be UNPACKED (6)": by each of its faults. */
    private static void partsOfOtherBytes(Bench b) {
        byte[] bytes = coming(b);
        int last = bytes.length - 1;
        refused(b, "84", withSum(changed(bytes, 0, 85)));
        coming(b);
        refused(b, "82", withSum(changed(bytes, 1, 83)));
        coming(b);
        refused(b, "the last of the eight bytes", changed(bytes, last, ~bytes[last]));
        coming(b);
        refused(b, "the first of the eight bytes", changed(bytes, last - 7, ~bytes[last - 7]));
        coming(b);
        refused(b, "a NUM that is none", withSum(changed(bytes, last - 8, 128)));
        coming(b);
        refused(b, "a frame less", withSum(changed(bytes, numAt(bytes, 8), 0)));
        coming(b);
        refused(b, "bytes that go on", withSum(changed(bytes, numAt(bytes, 14), 2 * 50)));
        coming(b);
        refused(b, "bytes that end", withSum(changed(bytes, numAt(bytes, 14), 2 * 61)));
        coming(b);
        refused(b, "zeros", new byte[bytes.length]);
    }

    /** "as this t, move .. on its way". */
    private static void partsOfAnother(Bench b) {
        byte[] bytes = coming(b);
        int t = numAt(bytes, 3);
        int move = numAt(bytes, 5);
        b.due("on its way", bytes[WAY], 2);
        b.due("t", bytes[t], 0);
        b.due("move", bytes[move], 2);
        refused(b, "another t", withSum(changed(bytes, t, 2)));
        coming(b);
        refused(b, "a later move", withSum(changed(bytes, move, 4)));
        coming(b);
        refused(b, "an earlier move", withSum(changed(bytes, move, 0)));
        coming(b);
        refused(b, "not on its way", withSum(changed(bytes, WAY, 0)));
    }

    /** ".. and program": one that the host has not, and one with the same text. */
    private static void partsOfAnotherProgram(Bench b) {
        for (int has = 0; has < 2; has++) {
            byte[] bytes = coming(b);
            b.due("the same text", b.read(GOES), 1);
            b.due("the same sum", b.x.program(1, 3), b.x.program(0, 3));
            if (has == 1) {
                b.x.give(1, 1);
            }
            b.due("program", bytes[PROGRAM], 0);
            refused(b, "another program", withSum(changed(bytes, PROGRAM, 2)));
        }
    }

    /** "was given up": it is put by so, and an OFFER of that move gets NO 3; the next move comes. */
    private static void givenUpByParts(Bench b) {
        byte[] bytes = coming(b);
        b.x.tick(0);
        b.x.trouble(0, 1, 1);
        Inside.putParts(b.x, 0, 1, 0, 1, new byte[bytes.length]);
        for (int i = 0; i < 2; i++) {
            b.due("OFFERS go behind", b.x.trouble(0, 1, 2), true);
        }
        b.due("PARTs", "" + b.x.pass(0, 1) + b.x.pass(0, 1), "33");
        b.due("NO", b.x.trouble(1, 0, 0), true);
        b.x.power(1, 1);
        b.due("put by", b.x.host(1, 6), 1);
        state(b, 1, -1);
        b.x.power(1, 2);
        b.due("OFFER", b.x.pass(0, 1), 0);
        said(b, 1, 0, 0, "2 0 1 3");
        b.due("OFFER", b.x.pass(0, 1), 0);
        said(b, 1, 0, 1, "2 0 1 3");
        b.due("once", b.x.host(1, 6), 1);
        // one that comes late finds nothing COMING
        Inside.putParts(b.x, 0, 1, 0, 1, withSum(bytes));
        b.passAll(0, 1);
        state(b, 1, -1);
        said(b, 1, 0, 2, "-");
    }

    /** "READY of a part that there is none of: SENT, no PART goes." */
    private static void readyOfNone(Bench b) {
        int parts = (coming(b).length + 47) / 48;
        b.due("parts", parts, 2);
        for (int k : new int[] {-1, 0, 1, 2, 3, 20, 41, 42, 89478486, Integer.MAX_VALUE, Integer.MIN_VALUE}) {
            coming(b);
            state(b, 0, 1);
            int kept = b.x.host(0, 4);
            Inside.put(b.x, 1, 0, 1, 0, 1, k);
            b.due("READY", b.x.pass(1, 0), 1);
            state(b, 0, 2);
            int go = k < 0 || k >= parts ? 0 : parts - k;
            b.due("PARTs from " + k + " on", b.x.count(3), go);
            b.due("lost", b.x.count(4), 1);
            b.due("nothing is KEPT", b.x.host(0, 4), kept);
            // it is as before for one that is SENT already
            for (int i = 0; i < go; i++) {
                b.x.trouble(0, 1, 0);
            }
            Inside.put(b.x, 1, 0, 1, 0, 1, k);
            b.x.pass(1, 0);
            state(b, 0, 2);
            b.due("SENT, from " + k + " on", b.x.count(3), go);
        }
        // of another move, or of one that is not here, also that does nothing
        coming(b);
        Inside.put(b.x, 1, 0, 1, 0, 2, 9);
        Inside.put(b.x, 1, 0, 1, 0, 0, 9);
        Inside.put(b.x, 1, 0, 1, 3, 1, 9);
        b.due("READY", b.passAll(1, 0), "111");
        state(b, 0, 1);
        b.due("nothing goes", b.x.count(3), 0);
    }

    /** What can be seen of traveller 0 at a host. */
    private static String seen(Bench b, int h) {
        StringBuilder all = new StringBuilder();
        for (int what = 0; what <= 10; what++) {
            all.append(b.x.traveller(0, h, what)).append(' ');
        }
        for (int what = 0; what <= 3; what++) {
            all.append(b.x.frame(0, h, 0, what)).append(' ');
        }
        return all.append(b.x.host(h, 1)).append(' ').append(b.x.host(h, 4)).toString();
    }

    /** ".. else nothing": whichever move is OFFERED to traveller 0 at 0 from another host. */
    private static void nothing(Bench b, String what) {
        int there = b.x.count(3);
        String before = seen(b, 0);
        for (int move : new int[] {1, 2, 3, 9, Integer.MAX_VALUE}) {
            Inside.put(b.x, 2, 0, 0, 0, move, 30, 0);
            b.due("OFFER", b.x.pass(2, 0), 0);
            b.due(what + ", OFFER of " + move, seen(b, 0), before);
            b.due(what + ": nothing goes", b.x.count(3), there);
        }
        b.due(what + ": nothing is lost", b.x.count(4), 0);
    }

    /** "OFFER: .. GONE, COMING or HERE WHOLE, of an earlier one ..; else nothing": ACTING. */
    private static void offerToOneThatActs(Bench b) {
        b.begin(GOES);
        nothing(b, "ACTING");
        b.step(0, 2);
        nothing(b, "in the midst");
        // the one that a move brought here: only that of a later one does nothing, the others are over
        b.begin("main{go 1;while(true)1;}");
        b.step(0, 9);
        b.settle(0, 1);
        b.step(1, 9);
        String before = seen(b, 1);
        Inside.put(b.x, 2, 1, 0, 0, 2, 30, 0);
        b.x.pass(2, 1);
        b.due("ACTING", seen(b, 1), before);
        said(b, 1, 2, 0, "-");
        Inside.put(b.x, 2, 1, 0, 0, 1, 30, 0);
        b.x.pass(2, 1);
        b.due("ACTING", seen(b, 1), before);
        said(b, 1, 2, 0, "6 0 1");
    }

    private static void offerToOneThatGoes(Bench b) {
        b.begin(GOES);
        b.step(0, 20);
        nothing(b, "OFFERED");
        b.x.pass(0, 1);
        b.x.pass(1, 0);
        state(b, 0, 2);
        nothing(b, "SENT");
        // it still goes
        b.settle(0, 1);
        state(b, 1, 0);
    }

    private static void offerToOneThatWaits(Bench b) {
        b.begin("class C{int f(){return 3;}}main{far C c=pin new C;go 1;return c.f();}");
        b.step(0, 9);
        b.settle(0, 1);
        b.step(1, 9);
        state(b, 1, 6);
        String before = seen(b, 1);
        Inside.put(b.x, 2, 1, 0, 0, 2, 30, 0);
        b.x.pass(2, 1);
        b.due("WAITING", seen(b, 1), before);
        said(b, 1, 2, 0, "-");
        b.settle(0, 1);
        b.step(1, 9);
        b.due("it went on", b.x.traveller(0, 1, 6), 3);
    }

    private static void offerToOneThatEnded(Bench b) {
        b.begin("main{return 5;}");
        b.step(0, 9);
        state(b, 0, 7);
        nothing(b, "ENDED");
        b.begin("main{raise 5;}");
        b.step(0, 9);
        state(b, 0, 8);
        nothing(b, "FAILED");
    }
}
