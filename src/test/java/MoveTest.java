/** Promises 8, 11 to 18, 26: hosts that keep themselves, fall and come back, lines, and moves over them. */
public final class MoveTest {
    private static final String GO = "class C{int v;C n;}"
        + "main{C c=new C;c.v=7;c.n=c;int[] r=new int[30];int i=0;while(i<30){r[i]=i*1000;i=i+1;}print here;"
        + "bool b=go 1;if(b)print 100+here;else print 200+here;b=go 2;print 300+here;if(b)return c.n.v+r[29];return r[28];}";

    public static void main(String[] args) {
        Bench b = new Bench();
        gives(b);
        powers(b);
        plainMove(b);
        packedOnTheWay(b);
        refusals(b);
        lostAndDoubled(b);
        spoilt(b);
        mixedUp(b);
        parts(b);
        giveUps(b);
        giveUpTooLate(b);
        falls(b);
        fallsOfTheOther(b);
        comesBackHome(b);
        earlierRecords(b);
        fullLines(b);
        tooLarge(b);
        manyGivenUp(b);
        messages(b);
        movedParts(b);
        exactSizes(b);
        comingOverAFall(b);
        laterMoves(b);
        b.end();
    }

    private static void gives(Bench b) {
        b.fresh();
        b.read("main{}");
        b.read("main{}");
        b.due("give", b.x.give(4, 1), true);
        b.due("give again", b.x.give(4, 1), false);
        b.due("give", b.x.give(4, 2), false);
        b.due("give", b.x.give(4, -1), false);
        b.due("give", b.x.give(5, 0), false);
        b.due("give", b.x.give(-1, 0), false);
        b.due("programs", b.x.host(4, 5), 2);
        b.due("kept", b.x.host(4, 4), 1);
        b.due("give", b.x.give(4, 0), true);
        b.due("programs", b.x.host(4, 5), 3);
        b.due("fall", b.x.power(4, 1), true);
        b.due("programs", b.x.host(4, 5), 3);
        b.x.power(3, 1);
        b.due("give to a DOWN one", b.x.give(3, 0), false);
    }

    private static void powers(Bench b) {
        b.begin("main{put 1,2;put 3,4;while(true)1;}");
        b.due("kept", b.x.host(0, 4), 2);
        b.step(0, 3);
        b.due("keep", b.x.power(0, 0), true);
        b.due("kept", b.x.host(0, 4), 3);
        b.step(0, 10);
        b.due("keys", b.x.host(0, 2), 2);
        b.due("steps", b.x.traveller(0, 0, 1), 13);
        b.due("come back of an UP one", b.x.power(0, 2), false);
        b.due("how 3", b.x.power(0, 3), false);
        b.due("how -1", b.x.power(0, -1), false);
        b.due("no host", b.x.power(5, 0), false);
        b.due("no host", b.x.power(-1, 1), false);
        b.due("fall", b.x.power(0, 1), true);
        b.due("up", b.x.host(0, 0), 0);
        b.due("keys", b.x.host(0, 2), 1);
        b.due("board", b.x.board(0, 3), 0);
        b.due("board", b.x.board(0, 1), 2);
        b.due("steps", b.x.traveller(0, 0, 1), 3);
        b.due("kept", b.x.host(0, 4), 3);
        b.due("fall again", b.x.power(0, 1), false);
        b.due("keep of a DOWN one", b.x.power(0, 0), false);
        b.due("how 3", b.x.power(0, 3), false);
        b.due("tick of a DOWN one", b.x.tick(0), false);
        b.due("pack of a DOWN one", b.x.pack(0, 0) > 0, true);
        b.due("come back", b.x.power(0, 2), true);
        b.due("up", b.x.host(0, 0), 1);
        b.due("steps", b.x.traveller(0, 0, 1), 3);
        b.due("kept", b.x.host(0, 4), 3);
        b.due("step", b.step(0, 4), 4);
        b.due("keys", b.x.host(0, 2), 2);
        b.due("tick", b.x.tick(0), true);
        b.due("tick", b.x.tick(5), false);
        b.due("tick", b.x.tick(-1), false);
        // what it ended with is put by, too
        b.begin("main{print 6;return 5;}");
        b.step(0, 9);
        b.x.power(0, 0);
        b.x.power(0, 1);
        int[] want = {7, 4, 0, 0, 1, 1, 5, -1, 0, 0, 0};
        for (int what = 0; what < want.length; what++) {
            b.due("ENDED " + what, b.x.traveller(0, 0, what), want[what]);
        }
        b.due("line", b.x.line(0, 0, 0), 6);
        // what a twin began as is not kept, its number is used
        b.begin("main{twin;while(true)1;}");
        b.step(0, 3);
        b.due("travellers", b.x.host(0, 1), 2);
        b.x.power(0, 1);
        b.due("travellers", b.x.host(0, 1), 1);
        b.x.power(0, 2);
        b.step(0, 3);
        b.due("next number", b.x.at(0, 1), 2);
    }

    private static void states(Bench b, int at0, int at1) {
        b.due("state at 0", b.x.traveller(0, 0, 0), at0);
        b.due("state at 1", b.x.traveller(0, 1, 0), at1);
    }

    private static void plainMove(Bench b) {
        b.begin(GO);
        b.step(0, 500);
        b.step(0, 500);
        states(b, 1, -1);
        b.due("kept", b.x.host(0, 4), 3);
        b.due("moves", b.x.traveller(0, 0, 2), 1);
        b.due("where", b.x.traveller(0, 0, 7), 1);
        b.due("on lines", b.x.count(3), 1);
        b.due("sort", b.x.message(0, 1, 0, 0), 0);
        b.due("traveller", b.x.message(0, 1, 0, 1), 0);
        b.due("move", b.x.message(0, 1, 0, 2), 1);
        int bytes = b.x.pack(0, 0);
        b.due("bytes", b.x.message(0, 1, 0, 3), bytes);
        b.due("program", b.x.message(0, 1, 0, 4), 0);
        b.due("no more", b.x.message(0, 1, 0, 5), -1);
        b.due("OFFER", b.x.pass(0, 1), 0);
        states(b, 1, 4);
        b.due("kept", b.x.host(1, 4), 1);
        b.due("parts", b.x.traveller(0, 1, 8), 0);
        b.due("READY", b.x.message(1, 0, 0, 0), 1);
        b.due("move", b.x.message(1, 0, 0, 2), 1);
        b.due("lacks", b.x.message(1, 0, 0, 3), 0);
        b.due("no more", b.x.message(1, 0, 0, 4), -1);
        int[] coming = {4, 0, 1, 0, 0, 0, 0, 0, 0, 0, 0};
        for (int what = 0; what < coming.length; what++) {
            b.due("COMING " + what, b.x.traveller(0, 1, what), coming[what]);
        }
        b.due("READY", b.x.pass(1, 0), 1);
        states(b, 2, 4);
        int parts = (bytes + 47) / 48;
        b.due("parts", b.x.count(3), parts);
        for (int k = 0; k < parts; k++) {
            b.due("PART", b.x.message(0, 1, k, 0), 3);
            b.due("move", b.x.message(0, 1, k, 2), 1);
            b.due("k", b.x.message(0, 1, k, 3), k);
            b.due("bytes", b.x.message(0, 1, k, 4), Math.min(48, bytes - 48 * k));
            b.due("no more", b.x.message(0, 1, k, 5), -1);
        }
        for (int k = 1; k < parts; k++) {
            b.x.pass(0, 1);
            b.due("parts", b.x.traveller(0, 1, 8), k);
        }
        b.due("last PART", b.x.pass(0, 1), 3);
        states(b, 2, 5);
        b.due("kept", b.x.host(1, 4), 2);
        b.due("whole", b.x.traveller(0, 1, 8), 0);
        b.due("from", b.x.traveller(0, 1, 7), 0);
        for (int what = 1; what < 7; what++) {
            b.due("same " + what, b.x.traveller(0, 1, what), b.x.traveller(0, 0, what));
        }
        b.due("same heap", b.x.traveller(0, 1, 10), 2);
        b.due("not yet", b.step(1, 500), 0);
        b.due("WHOLE", b.x.pass(1, 0), 4);
        states(b, 3, 5);
        b.due("kept", b.x.host(0, 4), 4);
        int[] gone = {3, 0, 1, 0, 0, 0, 0, 1, 0, 0, 0};
        for (int what = 0; what < gone.length; what++) {
            b.due("GONE " + what, b.x.traveller(0, 0, what), gone[what]);
        }
        b.due("no frame", b.x.frame(0, 0, 0, 0), -1);
        b.due("no line", b.x.line(0, 0, 0), 0);
        b.due("RELEASE", b.x.pass(0, 1), 5);
        states(b, 3, 0);
        b.due("kept", b.x.host(1, 4), 3);
        b.due("where", b.x.traveller(0, 1, 7), -1);
        b.due("DONE", b.x.pass(1, 0), 6);
        states(b, -1, 0);
        b.due("not kept", b.x.host(0, 4), 4);
        b.due("none", b.x.count(3), 0);
        b.due("none", b.x.pass(0, 1), -1);
        b.due("steps", b.step(1, 500) > 5, true);
        b.settle(1, 2);
        b.step(2, 500);
        b.due("end", b.x.traveller(0, 2, 6), 29007);
        b.due("moves", b.x.traveller(0, 2, 2), 2);
        b.due("line", b.x.line(0, 2, 0), 0);
        b.due("line", b.x.line(0, 2, 1), 101);
        b.due("line", b.x.line(0, 2, 2), 302);
        // one that begins where another one was has none of its MOVES
        b.due("start", b.start(0, 0), 1);
        int[] anew = {0, 0, 0, 0, 0, 1, 0, -1, 0, 0, 0};
        for (int what = 0; what < anew.length; what++) {
            b.due("anew " + what, b.x.traveller(1, 0, what), anew[what]);
        }
    }

    private static void packedOnTheWay(Bench b) {
        b.begin("class C{int m(int a,bool t){print a;return 5;}}main{int i=4;return new C.m(i+1,go 1);}");
        b.step(0, 500);
        b.due("OFFERED", b.x.traveller(0, 0, 0), 1);
        int place = b.x.frame(0, 0, 0, 1);
        b.due("GO's own place", b.x.instruction(0, place, 0), 23);
        b.due("without the E", b.x.frame(0, 0, 0, 3), 2);
        b.due("stack", b.x.value(0, 0, 0, 1), 0);
        b.due("stack", b.x.value(0, 0, 0, 2), 5);
        b.due("stack", b.x.value(0, 0, 0, 3), 0);
        byte[] bytes = b.packed(0, 0);
        b.due("on its way", bytes[2], 2);
        b.x.pass(0, 1);
        b.x.pass(1, 0);
        b.x.pass(0, 1);
        b.due("place", b.x.frame(0, 1, 0, 1), place);
        b.due("pack of HERE WHOLE", b.x.pack(0, 1), -1);
        b.due("OUT stays", b.x.count(5), bytes.length);
        b.settle(0, 1);
        b.due("behind its GO", b.x.frame(0, 1, 0, 1), place + 1);
        b.due("with true", b.x.value(0, 1, 0, 3), 1);
        b.step(1, 500);
        b.due("end", b.x.traveller(0, 1, 6), 5);
    }

    private static void refusals(Bench b) {
        b.fresh();
        b.read(GO);
        b.x.give(0, 0);
        b.start(0, 0);
        b.step(0, 500);
        b.step(0, 500);
        b.x.pass(0, 1);
        b.due("nothing came", b.x.host(1, 1), 0);
        b.due("NO", b.x.message(1, 0, 0, 0), 2);
        b.due("move", b.x.message(1, 0, 0, 2), 1);
        b.due("why", b.x.message(1, 0, 0, 3), 1);
        b.due("NO", b.x.pass(1, 0), 2);
        b.due("ACTING", b.x.traveller(0, 0, 0), 0);
        b.due("moves", b.x.traveller(0, 0, 2), 1);
        b.due("kept", b.x.host(0, 4), 4);
        b.step(0, 4);
        b.due("false", b.x.frame(0, 0, 0, 3) >= 0, true);
        b.step(0, 4);
        b.due("line", b.x.line(0, 0, 1), 200);
        // eight are there
        b.begin(GO);
        for (int i = 0; i < 8; i++) {
            b.start(0, 1);
        }
        b.step(0, 500);
        b.step(0, 500);
        b.x.pass(0, 1);
        b.due("why", b.x.message(1, 0, 0, 3), 2);
        b.x.pass(1, 0);
        b.due("ACTING", b.x.traveller(0, 0, 0), 0);
        // an old NO does nothing
        b.x.tick(0);
        b.step(0, 500);
        b.due("OFFERED", b.x.traveller(0, 0, 0), 1);
        b.due("moves", b.x.traveller(0, 0, 2), 2);
    }

    private static void atGo(Bench b, String text) {
        b.begin(text);
        b.step(0, 500);
        b.step(0, 500);
    }

    private static void lostAndDoubled(Bench b) {
        atGo(b, GO);
        b.due("lost", b.x.trouble(0, 1, 0), true);
        b.due("none", b.x.count(3), 0);
        b.due("lost", b.x.count(4), 1);
        b.due("none", b.x.trouble(0, 1, 0), false);
        b.due("none", b.x.trouble(0, 1, 1), false);
        b.due("none", b.x.trouble(0, 1, 2), false);
        b.due("none", b.x.trouble(0, 0, 0), false);
        b.due("none", b.x.trouble(0, 5, 0), false);
        b.due("none", b.x.trouble(-1, 0, 0), false);
        b.x.tick(0);
        b.due("OFFER again", b.x.message(0, 1, 0, 0), 0);
        b.due("doubled", b.x.trouble(0, 1, 1), true);
        b.due("two", b.x.count(3), 2);
        b.due("how 4", b.x.trouble(0, 1, 4), false);
        b.due("how -1", b.x.trouble(0, 1, -1), false);
        b.due("no PART", b.x.trouble(0, 1, 3), false);
        b.x.pass(0, 1);
        b.x.pass(0, 1);
        b.due("READY twice", b.passAll(1, 0), "11");
        int parts = b.x.count(3) / 2;
        b.due("all twice", b.x.count(3), 2 * parts);
        for (int k = 0; k < parts; k++) {
            b.x.pass(0, 1);
        }
        b.due("whole", b.x.traveller(0, 1, 0), 5);
        b.passAll(0, 1);
        b.due("one WHOLE", b.x.count(3), 1);
        b.x.tick(0);
        b.x.pass(0, 1);
        b.due("WHOLE again", b.passAll(1, 0), "44");
        b.due("RELEASE twice", b.passAll(0, 1), "55");
        b.due("ACTING", b.x.traveller(0, 1, 0), 0);
        b.due("DONE twice", b.passAll(1, 0), "66");
        b.due("kept once", b.x.host(1, 4), 3);
        b.due("kept once", b.x.host(0, 4), 4);
        b.due("gone", b.x.traveller(0, 0, 0), -1);
    }

    private static void spoilt(Bench b) {
        atGo(b, GO);
        b.x.pass(0, 1);
        b.x.pass(1, 0);
        b.due("spoilt", b.x.trouble(0, 1, 3), true);
        b.due("PART", b.x.pass(0, 1), 3);
        b.due("not taken", b.x.traveller(0, 1, 8), 0);
        b.due("spoilt", b.x.trouble(0, 1, 3), true);
        b.due("turned over again", b.x.trouble(0, 1, 3), true);
        b.x.pass(0, 1);
        b.due("taken", b.x.traveller(0, 1, 8), 1);
        b.due("kept nothing", b.x.host(1, 4), 1);
        b.passAll(0, 1);
        b.x.tick(1);
        b.due("READY", b.x.message(1, 0, 0, 0), 1);
        b.due("the first that lacks", b.x.message(1, 0, 0, 3), 0);
        b.x.pass(1, 0);
        b.due("from there on", b.x.message(0, 1, 0, 3), 0);
        b.x.pass(0, 1);
        b.due("whole", b.x.traveller(0, 1, 0), 5);
    }

    private static void mixedUp(Bench b) {
        atGo(b, GO);
        b.x.pass(0, 1);
        b.x.pass(1, 0);
        int parts = b.x.count(3);
        b.due("behind all", b.x.trouble(0, 1, 2), true);
        b.due("second is first", b.x.message(0, 1, 0, 3), 1);
        b.due("first is last", b.x.message(0, 1, parts - 1, 3), 0);
        b.due("as many", b.x.count(3), parts);
        b.x.pass(0, 1);
        b.x.tick(1);
        b.due("lacks", b.x.message(1, 0, 0, 3), 0);
        b.settle(0, 1);
        b.due("came", b.x.traveller(0, 1, 0), 0);
        b.due("gone", b.x.traveller(0, 0, 0), -1);
        b.step(1, 100);
        b.due("line", b.x.line(0, 1, 1), 101);
    }

    private static void parts(Bench b) {
        // more than twenty parts
        atGo(b, "main{int[] r=new int[100];int[] q=new int[100];int[] s=new int[100];int i=0;"
            + "while(i<100){r[i]=-2147483647;q[i]=i*1000000;s[i]=i;i=i+1;}while(!go 1)i=i;return q[99];}");
        for (int i = 0; i < 10; i++) {
            b.step(0, 500);
        }
        int bytes = b.x.pack(0, 0);
        int parts = (bytes + 47) / 48;
        b.due("more than twenty", parts > 20, true);
        b.x.pass(0, 1);
        b.x.pass(1, 0);
        b.due("twenty", b.x.count(3), 20);
        b.passAll(0, 1);
        b.due("twenty", b.x.traveller(0, 1, 8), 20);
        b.due("nothing goes by itself", b.x.count(3), 0);
        // what is COMING is put by as it is
        b.x.power(1, 0);
        b.x.power(1, 1);
        b.due("twenty", b.x.traveller(0, 1, 8), 20);
        b.x.power(1, 2);
        b.x.tick(1);
        b.due("lacks", b.x.message(1, 0, 0, 3), 20);
        b.x.pass(1, 0);
        b.due("the rest", b.x.count(3), parts - 20);
        b.settle(0, 1);
        b.step(1, 500);
        b.due("end", b.x.traveller(0, 1, 6), 99000000);
    }

    private static void giveUps(Bench b) {
        atGo(b, GO);
        b.due("no such", b.x.giveUp(1, 0), false);
        b.due("no such", b.x.giveUp(0, 1), false);
        b.due("no such", b.x.giveUp(0, 5), false);
        b.due("no such", b.x.giveUp(-1, 0), false);
        b.x.pass(0, 1);
        b.x.pass(1, 0);
        b.due("SENT", b.x.traveller(0, 0, 0), 2);
        b.due("give up", b.x.giveUp(0, 0), true);
        int parts = b.x.count(3) - 1;
        b.due("GIVE UP", b.x.message(0, 1, parts, 0), 7);
        b.due("move", b.x.message(0, 1, parts, 2), 1);
        b.due("no more", b.x.message(0, 1, parts, 3), -1);
        b.due("still SENT", b.x.traveller(0, 0, 0), 2);
        // the GIVE UP overtakes
        for (int k = 0; k < parts; k++) {
            b.x.trouble(0, 1, 2);
        }
        int kept = b.x.host(1, 4);
        b.due("GIVE UP", b.x.pass(0, 1), 7);
        b.due("no more there", b.x.traveller(0, 1, 0), -1);
        b.due("given up", b.x.host(1, 6), 1);
        b.due("kept", b.x.host(1, 4), kept + 1);
        b.passAll(0, 1);
        b.due("parts do nothing", b.x.traveller(0, 1, 0), -1);
        b.x.tick(0);
        b.due("OFFER", b.x.pass(0, 1), 0);
        b.due("NO 3", b.x.message(1, 0, 0, 3), 3);
        b.due("NO 3 again", b.x.message(1, 0, 1, 3), 3);
        b.x.pass(1, 0);
        b.due("ACTING", b.x.traveller(0, 0, 0), 0);
        kept = b.x.host(0, 4);
        b.x.pass(1, 0);
        b.due("the second does nothing", b.x.host(0, 4), kept);
        b.due("not to be given up", b.x.giveUp(0, 0), false);
        b.step(0, 5);
        b.step(0, 5);
        b.due("false", b.x.line(0, 0, 1), 200);
        // again given up: once in the row, kept again
        atGo(b, GO);
        b.x.giveUp(0, 0);
        b.x.giveUp(0, 0);
        b.x.trouble(0, 1, 2);
        b.due("GIVE UP", b.passAll(0, 1), "770");
        b.due("once", b.x.host(1, 6), 1);
        b.due("kept", b.x.host(1, 4), 3);
        b.due("NO each", b.x.count(3), 3);
        b.x.power(0, 1);
        b.due("give up at a DOWN one", b.x.giveUp(0, 0), false);
    }

    private static void giveUpTooLate(Bench b) {
        atGo(b, GO);
        b.x.giveUp(0, 0);
        b.x.trouble(0, 1, 1);
        b.x.pass(0, 1);
        b.x.trouble(0, 1, 2);
        b.x.pass(0, 1);
        b.due("READY", b.x.pass(1, 0), 1);
        b.x.trouble(0, 1, 2);
        b.due("PARTS and GIVE UP", b.passAll(0, 1).endsWith("7"), true);
        b.due("HERE WHOLE", b.x.traveller(0, 1, 0), 5);
        b.due("not given up", b.x.host(1, 6), 0);
        b.x.pass(1, 0);
        b.x.pass(1, 0);
        b.due("GONE", b.x.traveller(0, 0, 0), 3);
        b.due("no more to be given up", b.x.giveUp(0, 0), false);
        b.passAll(0, 1);
        b.due("ACTING", b.x.traveller(0, 1, 0), 0);
        // a GIVE UP when the move is over
        atGo(b, GO);
        b.x.giveUp(0, 0);
        b.x.pass(0, 1);
        b.x.trouble(0, 1, 0);
        b.x.tick(0);
        b.x.giveUp(0, 0);
        b.x.pass(0, 1);
        b.due("READY", b.passAll(1, 0), "11");
        int waiting = b.x.count(3);
        b.x.trouble(0, 1, 2);
        for (int i = 0; i < waiting - 1; i++) {
            b.x.pass(0, 1);
        }
        b.passAll(1, 0);
        b.x.trouble(0, 1, 2);
        b.due("RELEASE", b.x.pass(0, 1), 5);
        b.due("ACTING", b.x.traveller(0, 1, 0), 0);
        int kept = b.x.host(1, 4);
        b.due("GIVE UP", b.x.pass(0, 1), 7);
        b.due("kept nothing", b.x.host(1, 4), kept);
        b.due("not given up", b.x.host(1, 6), 0);
        b.due("DONE", b.passAll(1, 0).endsWith("66"), true);
    }

    private static void falls(Bench b) {
        // the host falls when it has OFFERED: that was put by
        atGo(b, GO);
        b.x.power(0, 1);
        b.x.pass(0, 1);
        b.due("lost at a DOWN one", b.x.pass(1, 0), 1);
        b.due("lost", b.x.count(4), 1);
        b.x.power(0, 2);
        b.due("OFFERED", b.x.traveller(0, 0, 0), 1);
        b.x.tick(0);
        b.settle(0, 1);
        b.due("came", b.x.traveller(0, 1, 0), 0);
        // it falls when it was SENT
        atGo(b, GO);
        b.x.pass(0, 1);
        b.x.pass(1, 0);
        b.x.power(0, 1);
        b.due("OFFERED in what was put by", b.x.traveller(0, 0, 0), 1);
        b.passAll(0, 1);
        b.due("from a DOWN one, too", b.x.traveller(0, 1, 0), 5);
        b.passAll(1, 0);
        b.x.power(0, 2);
        b.x.tick(1);
        b.due("WHOLE", b.passAll(1, 0), "4");
        b.due("GONE", b.x.traveller(0, 0, 0), 3);
        b.x.power(0, 1);
        b.x.power(0, 2);
        b.due("GONE stays", b.x.traveller(0, 0, 0), 3);
        b.passAll(0, 1);
        b.due("ACTING", b.x.traveller(0, 1, 0), 0);
        // DONE is not kept: the record comes back, and goes again
        b.passAll(1, 0);
        b.due("no record", b.x.traveller(0, 0, 0), -1);
        b.x.power(0, 1);
        b.x.power(0, 2);
        b.due("GONE again", b.x.traveller(0, 0, 0), 3);
        b.x.tick(0);
        b.due("RELEASE", b.passAll(0, 1), "5");
        b.due("DONE", b.passAll(1, 0), "6");
        b.due("no record", b.x.traveller(0, 0, 0), -1);
    }

    private static void fallsOfTheOther(Bench b) {
        atGo(b, GO);
        b.x.pass(0, 1);
        b.x.power(1, 1);
        b.due("COMING is gone", b.x.traveller(0, 1, 0), -1);
        b.x.power(1, 2);
        b.x.pass(1, 0);
        b.passAll(0, 1);
        b.due("PARTS of none", b.x.traveller(0, 1, 0), -1);
        b.x.tick(0);
        b.x.pass(0, 1);
        b.due("COMING", b.x.traveller(0, 1, 0), 4);
        b.x.pass(1, 0);
        b.passAll(0, 1);
        b.due("HERE WHOLE", b.x.traveller(0, 1, 0), 5);
        b.x.power(1, 1);
        b.x.power(1, 2);
        b.due("HERE WHOLE", b.x.traveller(0, 1, 0), 5);
        b.settle(0, 1);
        b.due("ACTING", b.x.traveller(0, 1, 0), 0);
        b.step(1, 4);
        b.x.power(1, 1);
        b.x.power(1, 2);
        b.due("ACTING", b.x.traveller(0, 1, 0), 0);
        b.step(1, 100);
        b.settle(1, 2);
        b.step(2, 100);
        b.due("end", b.x.traveller(0, 2, 6), 29007);
        b.due("steps as without all that", b.x.traveller(0, 2, 4), 3);
    }

    private static void comesBackHome(Bench b) {
        b.begin("main{int i=0;while(i<6){if(go ((i+1)%2))print here;i=i+1;}return i;}");
        for (int round = 0; round < 6; round++) {
            b.step(0, 100);
            b.settle(0, 1);
            b.step(1, 100);
            b.settle(1, 0);
        }
        b.due("end", b.x.traveller(0, 0, 6), 6);
        b.due("moves", b.x.traveller(0, 0, 2), 6);
        b.due("records", b.x.host(1, 1), 0);
        int[] want = {1, 0, 1, 0, 1, 0};
        for (int i = 0; i < want.length; i++) {
            b.due("line", b.x.line(0, 0, i), want[i]);
        }
    }

    private static void earlierRecords(Bench b) {
        // GONE of an earlier move is no more when a later one comes; an old OFFER is answered DONE
        b.begin("main{go 1;go 0;go 1;while(true)1;}");
        b.step(0, 100);
        b.x.trouble(0, 1, 1);
        b.x.pass(0, 1);
        b.x.pass(1, 0);
        b.x.trouble(0, 1, 2);
        b.x.pass(0, 1);
        b.x.pass(1, 0);
        // on the line to 1: the second OFFER and RELEASE
        b.x.trouble(0, 1, 2);
        b.due("RELEASE", b.x.pass(0, 1), 5);
        b.due("ACTING", b.x.traveller(0, 1, 0), 0);
        b.due("GONE", b.x.traveller(0, 0, 0), 3);
        b.x.trouble(1, 0, 0);
        b.step(1, 100);
        b.due("old OFFER", b.x.pass(0, 1), 0);
        b.due("DONE of it", b.x.message(1, 0, 1, 0), 6);
        b.due("move", b.x.message(1, 0, 1, 2), 1);
        int kept = b.x.host(0, 4);
        b.due("OFFER of move 2", b.x.pass(1, 0), 0);
        b.due("COMING", b.x.traveller(0, 0, 0), 4);
        b.due("move", b.x.traveller(0, 0, 2), 2);
        b.due("nothing is KEPT", b.x.host(0, 4), kept);
        b.due("DONE of an earlier move", b.x.pass(1, 0), 6);
        b.due("does nothing", b.x.traveller(0, 0, 0), 4);
        // NO 1 or 2, and yet the record is no more: eight others are there
        b.begin("main{go 1;go 0;while(true)1;}");
        b.step(0, 100);
        b.x.pass(0, 1);
        b.x.pass(1, 0);
        b.x.pass(0, 1);
        b.x.pass(1, 0);
        b.x.pass(0, 1);
        b.x.trouble(1, 0, 0);
        b.step(1, 100);
        b.due("GONE", b.x.traveller(0, 0, 0), 3);
        for (int i = 0; i < 8; i++) {
            b.due("start", b.start(0, 0), i + 1);
        }
        b.due("OFFER", b.x.pass(1, 0), 0);
        b.due("no record", b.x.traveller(0, 0, 0), -1);
        b.due("NO", b.x.message(0, 1, 0, 0), 2);
        b.due("why", b.x.message(0, 1, 0, 3), 2);
    }

    private static void fullLines(Bench b) {
        atGo(b, GO);
        for (int i = 1; i < 40; i++) {
            b.due("doubled", b.x.trouble(0, 1, 1), true);
        }
        b.due("forty", b.x.count(3), 40);
        b.due("no room", b.x.trouble(0, 1, 1), false);
        b.due("none lost by that", b.x.count(4), 0);
        b.x.tick(0);
        b.due("forty", b.x.count(3), 40);
        b.due("lost", b.x.count(4), 1);
        b.due("behind all of a full line", b.x.trouble(0, 1, 2), true);
        b.due("message", b.x.message(0, 1, 39, 0), 0);
        b.due("message", b.x.message(0, 1, 40, 0), -1);
        b.due("message", b.x.message(0, 1, -1, 0), -1);
        for (int i = 0; i < 39; i++) {
            b.x.pass(0, 1);
        }
        b.due("READY each", b.x.count(3), 40);
        b.x.pass(0, 1);
        for (int i = 0; i < 2; i++) {
            b.x.pass(1, 0);
        }
        b.due("as many PARTS as find room", b.x.count(3) <= 78, true);
        b.settle(0, 1);
        b.due("RELEASE found no room", b.x.traveller(0, 1, 0), 5);
        b.x.tick(0);
        b.settle(0, 1);
        b.due("came", b.x.traveller(0, 1, 0), 0);
    }

    private static void tooLarge(Bench b) {
        b.begin("class C{int[] r;int[] q;int[] s;int m(int n,int a,int b,int c){if(n>0)return m(n-1,a,b,c);int k=0;"
            + "try{go 1;}catch(e){k=e;}r=null;go 1;return k;}}"
            + "main{C c=new C;c.r=new int[98];c.q=new int[98];c.s=new int[98];int i=0;int z=2147483647;"
            + "while(i<98){c.r[i]=z;c.q[i]=-z;c.s[i]=z;print z;i=i+1;}return c.m(9,z,z,z);}");
        for (int i = 0; i < 16; i++) {
            b.step(0, 500);
        }
        b.due("OFFERED", b.x.traveller(0, 0, 0), 1);
        b.due("moves", b.x.traveller(0, 0, 2), 1);
        b.due("small enough", b.x.pack(0, 0) <= 2000, true);
        b.settle(0, 1);
        b.settle(0, 1);
        b.step(1, 50);
        b.due("parts come only when asked for", b.x.traveller(0, 1, 0), 4);
        b.x.tick(1);
        b.settle(0, 1);
        b.x.tick(1);
        b.settle(0, 1);
        b.step(1, 50);
        b.due("told -4", b.x.traveller(0, 1, 6), -4);
    }

    private static void manyGivenUp(Bench b) {
        b.begin("main{while(true)go 1;}");
        for (int i = 1; i <= 31; i++) {
            b.step(0, 20);
            b.x.giveUp(0, 0);
            b.x.trouble(0, 1, 0);
            b.x.pass(0, 1);
            b.x.pass(1, 0);
            b.due("given up", b.x.host(1, 6), Math.min(i, 30));
            b.due("moves", b.x.traveller(0, 0, 2), i);
        }
    }

    private static void messages(Bench b) {
        b.fresh();
        b.due("none", b.x.message(0, 1, 0, 0), -1);
        b.due("none", b.x.message(0, 0, 0, 0), -1);
        b.due("none", b.x.message(5, 0, 0, 0), -1);
        b.due("none", b.x.message(0, -1, 0, 0), -1);
        b.due("none", b.x.pass(0, 0), -1);
        b.due("none", b.x.pass(5, 0), -1);
        b.due("none", b.x.pass(0, -1), -1);
        atGo(b, GO);
        b.due("what -1", b.x.message(0, 1, 0, -1), -1);
        b.due("what 1", b.x.message(0, 1, 0, 1), 0);
        b.due("from 1 to 0", b.x.message(1, 0, 0, 0), -1);
    }

    /** A PART that was doubled, or went behind all, is as good as it was. */
    private static void movedParts(Bench b) {
        for (int how = 1; how <= 2; how++) {
            atGo(b, GO);
            b.x.pass(0, 1);
            b.x.pass(1, 0);
            b.x.trouble(0, 1, how);
            if (how == 1) {
                b.x.trouble(0, 1, 0);
            }
            b.passAll(0, 1);
            b.due("whole without a second READY", b.x.traveller(0, 1, 0), 5);
        }
        // the doubled one is spoilt by itself
        atGo(b, GO);
        b.x.pass(0, 1);
        b.x.pass(1, 0);
        b.x.trouble(0, 1, 3);
        b.x.trouble(0, 1, 1);
        b.x.trouble(0, 1, 3);
        b.passAll(0, 1);
        b.due("whole by the first one", b.x.traveller(0, 1, 0), 5);
    }

    /** Sizes one by one: some parts are all full. */
    private static void exactSizes(Bench b) {
        int full = 0;
        for (int k = 0; k < 60; k++) {
            b.begin("main{int i=0;while(i<" + (10 + k) + "){print 1;i=i+1;}go 1;}");
            b.step(0, 500);
            b.step(0, 500);
            int size = b.x.pack(0, 0);
            b.x.pass(0, 1);
            b.x.pass(1, 0);
            b.due("parts", b.x.count(3), (size + 47) / 48);
            b.passAll(0, 1);
            b.due("whole", b.x.traveller(0, 1, 0), 5);
            full += size % 48 == 0 ? 1 : 0;
        }
        b.due("some were full", full > 0, true);
    }

    /** What is put by of one that is COMING is its own, whatever becomes of the others' places. */
    private static void comingOverAFall(Bench b) {
        b.begin("main{int[] r=new int[100];int[] q=new int[100];int i=0;while(i<100){r[i]=2147483647-i;q[i]=i-2147483647;i=i+1;}"
            + "if(self==1)go 2;else go 1;return r[99]+q[98];}");
        b.start(0, 1);
        for (int i = 0; i < 10; i++) {
            b.step(0, 500);
            b.step(1, 500);
        }
        // traveller 1 goes from 1 to 2, up to DONE
        b.x.pass(1, 2);
        b.x.pass(2, 1);
        b.passAll(1, 2);
        b.x.tick(2);
        b.x.pass(2, 1);
        b.passAll(1, 2);
        b.due("WHOLE", b.x.pass(2, 1), 4);
        b.due("RELEASE", b.passAll(1, 2), "5");
        b.due("GONE", b.x.traveller(1, 1, 0), 3);
        // twenty parts of traveller 0 come, 1 keeps itself, then the record of traveller 1 is no more, and it falls
        b.x.pass(0, 1);
        b.x.pass(1, 0);
        b.passAll(0, 1);
        b.due("parts", b.x.traveller(0, 1, 8), 20);
        b.x.power(1, 0);
        b.due("DONE", b.x.pass(2, 1), 6);
        b.due("first", b.x.at(1, 0), 0);
        b.x.power(1, 1);
        b.x.power(1, 2);
        b.due("first", b.x.at(1, 0), 1);
        b.due("second", b.x.at(1, 1), 0);
        b.due("parts", b.x.traveller(0, 1, 8), 20);
        b.x.tick(1);
        b.settle(0, 1);
        b.due("ACTING", b.x.traveller(0, 1, 0), 0);
        b.step(1, 50);
        b.due("end", b.x.traveller(0, 1, 6), -1);
        // and nothing of what it had before is left where one begins anew
        b.begin("main{print 3;if(twin==0){print 4;return 5;}while(true)1;}");
        b.step(0, 20);
        b.due("end", b.x.traveller(1, 0, 6), 5);
        b.x.power(0, 1);
        b.x.power(0, 2);
        b.due("start", b.start(0, 0), 2);
        int[] want = {0, 0, 0, 0, 0, 1, 0, -1, 0, 0, 0};
        for (int what = 0; what < want.length; what++) {
            b.due("new " + what, b.x.traveller(2, 0, what), want[what]);
        }
    }

    private static void laterMoves(Bench b) {
        // NO tells the move that it answers
        b.begin("main{go 1;go 1;while(true)1;}");
        for (int i = 0; i < 8; i++) {
            b.start(0, 1);
        }
        b.step(0, 2);
        b.settle(0, 1);
        b.step(0, 3);
        b.x.pass(0, 1);
        b.due("NO", b.x.message(1, 0, 0, 0), 2);
        b.due("move", b.x.message(1, 0, 0, 2), 2);
        b.due("why", b.x.message(1, 0, 0, 3), 2);
        b.due("kept nothing", b.x.host(1, 4), 9);
        // what is answered to one traveller is not what was last said of another
        for (int program = 0; program < 2; program++) {
            b.fresh();
            b.read("main{if(self==1)go 2;go 1;while(true)1;}");
            b.x.give(0, 0);
            if (program == 1) {
                b.x.give(1, 0);
            }
            b.start(0, 0);
            b.start(0, 0);
            b.step(0, 50);
            b.settle(0, 2);
            b.step(0, 50);
            b.due("second's move", b.x.message(0, 1, 1, 2), 2);
            b.x.pass(0, 1);
            b.due("READY or NO", b.x.message(1, 0, 0, 0), program == 1 ? 1 : 2);
            b.due("first's move", b.x.message(1, 0, 0, 2), 1);
            b.x.pass(0, 1);
            b.due("second's move", b.x.message(1, 0, 1, 2), 2);
            b.x.pass(1, 0);
            b.due("first's PART", b.x.message(0, 1, 0, 2), program == 1 ? 1 : -1);
        }
        wholeOfAnEarlierMove(b);
        // a traveller that ends makes room
        b.begin("main{if(self==0)go 1;return 4;}");
        for (int i = 0; i < 8; i++) {
            b.start(0, 1);
        }
        b.step(0, 9);
        b.step(1, 9);
        b.x.pass(0, 1);
        b.due("COMING", b.x.traveller(0, 1, 0), 4);
        b.due("the last one", b.x.at(1, 8), 0);
    }

    /** A NO that was late: HERE WHOLE of that move stays, until a later one comes. */
    private static void wholeOfAnEarlierMove(Bench b) {
        b.begin("main{if(self>0)return 4;bool c=go 1;if(c)print 1;else print 2;c=go 1;if(c)print 3;else print 4;return 5;}");
        for (int i = 0; i < 8; i++) {
            b.start(0, 1);
        }
        b.step(0, 20);
        b.x.trouble(0, 1, 1);
        b.x.pass(0, 1);
        b.step(1, 20);
        b.x.pass(0, 1);
        b.due("NO is first", b.x.message(1, 0, 0, 0), 2);
        b.x.trouble(1, 0, 2);
        b.due("READY", b.x.pass(1, 0), 1);
        b.passAll(0, 1);
        b.due("HERE WHOLE", b.x.traveller(0, 1, 0), 5);
        b.due("NO", b.x.pass(1, 0), 2);
        b.due("ACTING", b.x.traveller(0, 0, 0), 0);
        b.due("WHOLE", b.x.pass(1, 0), 4);
        b.due("does nothing", b.x.count(3), 0);
        b.due("ACTING", b.x.traveller(0, 0, 0), 0);
        b.step(0, 20);
        int kept = b.x.host(1, 4);
        b.due("OFFER of move 2", b.x.pass(0, 1), 0);
        b.due("COMING", b.x.traveller(0, 1, 0), 4);
        b.due("move", b.x.traveller(0, 1, 2), 2);
        b.due("the last one", b.x.at(1, 8), 0);
        b.due("nothing is KEPT", b.x.host(1, 4), kept);
        b.settle(0, 1);
        b.step(1, 20);
        b.due("end", b.x.traveller(0, 1, 6), 5);
        b.due("line", b.x.line(0, 1, 0), 2);
        b.due("line", b.x.line(0, 1, 1), 3);
    }
}
