/** Terms 4, HOSTS: what comes to a host in each STATE, of the move that is meant, an earlier and a later one. */
public final class EdgeMoveTest {
    /** Traveller 0 wants to go to 1 again and again; those that begin at 1 end there at once. */
    private static final String ON = "main{if(here==1)return 4;while(true){if(go 1)print 1;else print 2;}}";
    /** It goes to and fro. */
    private static final String FRO = "main{while(true){if(go (1-here))print 10+here;else print 20+here;}}";

    /** So many LINES of five bytes that the largest traveller has 2,000. */
    private static final int LONG = 55;

    public static void main(String[] args) {
        Bench b = new Bench();
        offerWhenOver(b);
        offerWhenGivenUp(b);
        offerWhenComing(b);
        offerWhenWhole(b);
        offerOfALaterMove(b);
        offerWithEight(b);
        readies(b);
        noes(b);
        partsThatCome(b);
        wholes(b);
        releases(b);
        lateOnes(b);
        dones(b);
        giveUps(b);
        ticks(b);
        keeps(b);
        firstParts(b);
        largest(b);
        tooLarge(b);
        twentyParts(b);
        fullLine(b);
        partsWithoutRoom(b);
        lineOfOne(b);
        thirtyGivenUp(b);
        thirtyOfTwo(b);
        recordsThatGo(b);
        thirtyAtOneHost(b);
        givenUpOnce(b);
        powers(b);
        nothingAtFirst(b);
        downHosts(b);
        b.end();
    }

    private static void said(Bench b, int h, int g, int i, String want) {
        b.due("MESSAGE " + i + " from " + h + " to " + g, b.said(h, g, i), want);
    }

    private static void state(Bench b, int h, int want) {
        b.due("STATE at " + h, b.x.traveller(0, h, 0), want);
    }

    /** The OFFER of move 1 is at 1, and READY is on its line. */
    private static void offered(Bench b, String text) {
        b.begin(text);
        b.step(0, 20);
        b.due("OFFER", b.x.message(0, 1, 0, 0), 0);
    }

    private static void only(Bench b, int h, int g, int sort, int move) {
        b.due("from " + h + " to " + g + " there is a MESSAGE of sort " + sort, b.only(h, g, sort, move), true);
    }

    /** A move from its OFFER up to DONE, which is on the line to h; what else is on the lines stays there. */
    private static void over(Bench b, int h, int g, int move) {
        only(b, h, g, 0, move);
        only(b, g, h, 1, move);
        for (int k = 0; k < 20 && b.x.traveller(0, g, 0) == 4; k++) {
            only(b, h, g, 3, move);
        }
        only(b, g, h, 4, move);
        only(b, h, g, 5, move);
        state(b, g, 0);
        state(b, h, 3);
    }

    /** Move 1 is over, and moves 2 and 3, which bring it back there; what is left of move 1 on the line stays there. */
    private static void backAgain(Bench b) {
        only(b, 1, 0, 6, 1);
        b.step(1, 20);
        over(b, 1, 0, 2);
        only(b, 0, 1, 6, 2);
        b.step(0, 20);
        over(b, 0, 1, 3);
        only(b, 1, 0, 6, 3);
        b.due("MOVES", b.x.traveller(0, 1, 2), 3);
    }

    /** "OFFER: if a move of t as late, or later, is over here: DONE", "DONE, NO, WHOLE tell the move of the MESSAGE that came". */
    private static void offerWhenOver(Bench b) {
        offered(b, FRO);
        b.x.trouble(0, 1, 1);
        b.x.trouble(0, 1, 1);
        over(b, 0, 1, 1);
        int kept = b.x.host(1, 4);
        b.due("OFFER of move 1, which is over", b.only(0, 1, 0, 1), true);
        said(b, 1, 0, 1, "6 0 1");
        state(b, 1, 0);
        b.due("not kept", b.x.host(1, 4), kept);
        b.x.trouble(1, 0, 0);
        // of move 3, when 1 is over, an earlier one
        only(b, 1, 0, 6, 1);
        b.step(1, 20);
        over(b, 1, 0, 2);
        only(b, 0, 1, 6, 2);
        b.step(0, 20);
        only(b, 0, 1, 0, 3);
        said(b, 1, 0, 0, "1 0 3 0");
        state(b, 1, 4);
        // of move 1, when 3 is over, a later one
        offered(b, FRO);
        b.x.trouble(0, 1, 1);
        over(b, 0, 1, 1);
        backAgain(b);
        b.due("OFFER of move 1, a later one is over", b.x.pass(0, 1), 0);
        said(b, 1, 0, 0, "6 0 1");
        state(b, 1, 0);
    }

    /** "if that move was given up here: NO 3": that move of that traveller. */
    private static void offerWhenGivenUp(Bench b) {
        b.begin(ON);
        b.start(0, 0);
        b.step(0, 20);
        b.due("two OFFERS", b.x.count(3), 2);
        b.x.giveUp(0, 0);
        b.x.trouble(0, 1, 2);
        b.x.trouble(0, 1, 2);
        b.due("GIVE UP", b.x.pass(0, 1), 7);
        int kept = b.x.host(1, 4);
        b.due("OFFER of it", b.x.pass(0, 1), 0);
        said(b, 1, 0, 0, "2 0 1 3");
        said(b, 1, 0, 1, "2 0 1 3");
        state(b, 1, -1);
        b.due("nothing is kept", b.x.host(1, 4), kept);
        // another traveller's move of that number, and a later one of this traveller
        b.due("OFFER of 1", b.x.pass(0, 1), 0);
        b.due("COMING", b.x.traveller(1, 1, 0), 4);
        said(b, 1, 0, 2, "1 1 1 0");
        b.x.pass(1, 0);
        b.x.pass(1, 0);
        b.step(0, 20);
        b.due("OFFER", b.x.pass(0, 1), 0);
        state(b, 1, 4);
        b.due("MOVES", b.x.traveller(0, 1, 2), 2);
    }

    /** "if t is here: COMING, of that move: READY again": the first part that lacks. */
    private static void offerWhenComing(Bench b) {
        offered(b, ON.replace("main{", "main{int[] r=new int[90];"));
        b.x.trouble(0, 1, 1);
        b.x.trouble(0, 1, 1);
        b.x.pass(0, 1);
        b.due("READY", b.x.pass(1, 0), 1);
        b.x.trouble(0, 1, 2);
        b.x.trouble(0, 1, 2);
        b.due("PART 0", b.x.pass(0, 1), 3);
        b.due("a part", b.x.traveller(0, 1, 8), 1);
        for (int k = b.x.count(3); k > 2; k--) {
            b.x.trouble(0, 1, 0);
        }
        b.due("OFFER again", b.x.pass(0, 1), 0);
        said(b, 1, 0, 0, "1 0 1 1");
        b.due("the part stays", b.x.traveller(0, 1, 8), 1);
        b.x.pass(1, 0);
        b.due("from that one on", b.x.message(0, 1, 1, 3), 1);
    }

    /** "HERE WHOLE, of that move: WHOLE again". */
    private static void offerWhenWhole(Bench b) {
        offered(b, ON);
        b.x.trouble(0, 1, 1);
        b.x.pass(0, 1);
        b.x.pass(1, 0);
        b.x.trouble(0, 1, 2);
        b.due("PART", b.x.pass(0, 1), 3);
        state(b, 1, 5);
        int kept = b.x.host(1, 4);
        b.due("OFFER again", b.x.pass(0, 1), 0);
        said(b, 1, 0, 0, "4 0 1");
        said(b, 1, 0, 1, "4 0 1");
        state(b, 1, 5);
        b.due("not kept", b.x.host(1, 4), kept);
    }

    /** Traveller 0 has OFFERED move 1 twice: one was refused as eight were there, by the other it is COMING; then move 2. */
    private static void refusedAndComing(Bench b) {
        b.begin(ON.replace("main{", "main{int[] r=new int[60];"));
        for (int i = 0; i < 8; i++) {
            b.start(0, 1);
        }
        b.step(0, 20);
        b.x.trouble(0, 1, 1);
        b.x.trouble(0, 1, 1);
        b.x.trouble(0, 1, 1);
        b.x.pass(0, 1);
        said(b, 1, 0, 0, "2 0 1 2");
        b.step(1, 20);
        b.x.pass(0, 1);
        state(b, 1, 4);
        only(b, 1, 0, 1, 1);
        state(b, 0, 2);
        b.due("two OFFERS and two PARTs", b.x.count(3), 1 + 4);
    }

    /** "GONE, COMING or HERE WHOLE, of an earlier one: that is no more .., and as if t was not here; else nothing." */
    private static void offerOfALaterMove(Bench b) {
        refusedAndComing(b);
        only(b, 0, 1, 3, 1);
        b.due("a part of move 1", b.x.traveller(0, 1, 8), 1);
        only(b, 1, 0, 2, 1);
        state(b, 0, 0);
        b.step(0, 20);
        b.due("MOVES", b.x.traveller(0, 0, 2), 2);
        int kept = b.x.host(1, 4);
        only(b, 0, 1, 0, 2);
        state(b, 1, 4);
        b.due("MOVES", b.x.traveller(0, 1, 2), 2);
        b.due("without parts", b.x.traveller(0, 1, 8), 0);
        said(b, 1, 0, 0, "1 0 2 0");
        b.due("nothing is KEPT", b.x.host(1, 4), kept);
        // a PART of move 1 does nothing, nor does an OFFER of it: COMING of a later one
        only(b, 0, 1, 3, 1);
        b.due("not taken", b.x.traveller(0, 1, 8), 0);
        only(b, 0, 1, 0, 1);
        said(b, 1, 0, 1, "-");
        b.due("MOVES", b.x.traveller(0, 1, 2), 2);
        // HERE WHOLE of a later one
        only(b, 1, 0, 1, 2);
        only(b, 0, 1, 3, 2);
        only(b, 0, 1, 3, 2);
        state(b, 1, 5);
        said(b, 1, 0, 0, "4 0 2");
        only(b, 0, 1, 0, 1);
        said(b, 1, 0, 1, "-");
        state(b, 1, 5);
        // HERE WHOLE of an earlier one: eight others are there, and it is no more
        refusedAndComing(b);
        only(b, 0, 1, 3, 1);
        only(b, 0, 1, 3, 1);
        state(b, 1, 5);
        only(b, 1, 0, 2, 1);
        b.step(0, 20);
        kept = b.x.host(1, 4);
        only(b, 0, 1, 0, 2);
        state(b, 1, 4);
        b.due("MOVES", b.x.traveller(0, 1, 2), 2);
        b.due("no frames of it", b.x.traveller(0, 1, 5), 0);
        b.due("nothing is KEPT", b.x.host(1, 4), kept);
        // when the host falls, that of the earlier move is what was put by
        b.x.power(1, 1);
        state(b, 1, 5);
        b.due("MOVES", b.x.traveller(0, 1, 2), 1);
    }

    /** "if 8 travellers are (all states but 3, 7, 8): NO 2": seven, eight. */
    private static void offerWithEight(Bench b) {
        for (int n = 6; n <= 8; n++) {
            b.begin("main{if(here==0)go 1;while(true)1;}");
            for (int i = 0; i < n; i++) {
                b.start(0, 1);
            }
            b.step(0, 20);
            int kept = b.x.host(1, 4);
            b.x.pass(0, 1);
            said(b, 1, 0, 0, n < 8 ? "1 0 1 0" : "2 0 1 2");
            state(b, 1, n < 8 ? 4 : -1);
            b.due("the last one", b.x.at(1, n), n < 8 ? 0 : -1);
            b.due("not kept", b.x.host(1, 4), kept);
        }
        // ENDED and FAILED ones are not among them, nor is one that is GONE
        for (int how = 0; how < 3; how++) {
            b.begin("main{if(here==0)go 1;" + (how == 0 ? "if(self==1)return 1;" : how == 1 ? "if(self==1)raise 1;" : "if(self==1)go 2;")
                + "while(true)1;}");
            for (int i = 0; i < 8; i++) {
                b.start(0, 1);
            }
            b.step(0, 20);
            b.step(1, 20);
            if (how == 2) {
                b.x.pass(1, 2);
                b.x.pass(2, 1);
                b.passAll(1, 2);
                b.x.trouble(0, 1, 1);
                b.x.pass(0, 1);
                said(b, 1, 0, 0, "2 0 1 2");
                b.due("WHOLE", b.x.pass(2, 1), 4);
                b.x.trouble(1, 0, 0);
            }
            b.due("not among them", b.x.traveller(1, 1, 0), how == 0 ? 7 : how == 1 ? 8 : 3);
            b.x.pass(0, 1);
            said(b, 1, 0, 0, "1 0 1 0");
        }
        // without the program: asked first
        b.fresh();
        b.read("main{go 1;}");
        b.read("main{while(true)1;}");
        b.x.give(0, 0);
        b.x.give(1, 1);
        for (int i = 0; i < 8; i++) {
            b.start(1, 1);
        }
        b.due("start", b.start(0, 0), 8);
        b.step(0, 9);
        b.x.pass(0, 1);
        said(b, 1, 0, 0, "2 8 1 1");
    }

    /** "READY: if that move is OFFERED or SENT from here: its PARTS go, from that one on, twenty at most, and it is SENT." */
    private static void readies(Bench b) {
        offered(b, ON);
        b.x.trouble(0, 1, 1);
        b.passAll(0, 1);
        b.due("OFFERED", b.x.pass(1, 0), 1);
        state(b, 0, 2);
        b.due("a PART and READY", b.x.count(3), 2);
        int kept = b.x.host(0, 4);
        b.due("SENT", b.x.pass(1, 0), 1);
        state(b, 0, 2);
        b.due("the PART again", b.x.count(3), 2);
        b.due("not kept", b.x.host(0, 4), kept);
        // of an earlier move, to one that is ACTING, GONE, not here
        refusedAndComing(b);
        b.x.tick(1);
        b.x.tick(1);
        b.due("NO", b.x.pass(1, 0), 2);
        state(b, 0, 0);
        int there = b.x.count(3);
        b.due("READY to one that is ACTING", b.x.pass(1, 0), 1);
        state(b, 0, 0);
        b.due("nothing goes", b.x.count(3), there - 1);
        b.step(0, 20);
        there = b.x.count(3);
        b.due("READY of an earlier move", b.x.pass(1, 0), 1);
        state(b, 0, 1);
        b.due("nothing goes", b.x.count(3), there - 1);
        offered(b, ON);
        b.x.pass(0, 1);
        b.x.trouble(1, 0, 1);
        b.x.trouble(1, 0, 1);
        b.x.pass(1, 0);
        b.x.trouble(1, 0, 2);
        b.x.pass(0, 1);
        b.x.trouble(1, 0, 2);
        b.x.trouble(1, 0, 2);
        b.due("WHOLE", b.x.pass(1, 0), 4);
        state(b, 0, 3);
        b.due("READY to one that is GONE", b.x.pass(1, 0), 1);
        state(b, 0, 3);
        b.due("RELEASE and READY", b.x.count(3), 2);
        b.x.pass(0, 1);
        b.x.trouble(1, 0, 2);
        b.due("DONE", b.x.pass(1, 0), 6);
        b.due("READY of one that is not here", b.x.pass(1, 0), 1);
        b.due("nothing goes", b.x.count(3), 0);
    }

    /** "NO: if it is OFFERED or SENT: it is ACTING again, behind its GO with false, and the host KEEPS itself." */
    private static void noes(Bench b) {
        // SENT
        refusedAndComing(b);
        int kept = b.x.host(0, 4);
        int place = b.x.frame(0, 0, 0, 1);
        int steps = b.x.traveller(0, 0, 1);
        b.x.trouble(1, 0, 1);
        b.due("NO", b.x.pass(1, 0), 2);
        state(b, 0, 0);
        b.due("kept", b.x.host(0, 4), kept + 1);
        b.due("behind its GO", b.x.frame(0, 0, 0, 1), place + 1);
        b.due("with false", b.x.value(0, 0, 0, 1), 0);
        b.due("height", b.x.frame(0, 0, 0, 3), 1);
        b.due("MOVES stay", b.x.traveller(0, 0, 2), 1);
        b.due("steps stay", b.x.traveller(0, 0, 1), steps);
        b.due("nowhere", b.x.traveller(0, 0, 7), -1);
        // it is ACTING
        b.due("NO again", b.x.pass(1, 0), 2);
        b.due("kept once", b.x.host(0, 4), kept + 1);
        b.due("place", b.x.frame(0, 0, 0, 1), place + 1);
        // that was put by
        b.x.power(0, 1);
        b.x.power(0, 2);
        state(b, 0, 0);
        // OFFERED, and of an earlier move
        b.fresh();
        b.read(ON);
        b.x.give(0, 0);
        b.start(0, 0);
        b.step(0, 20);
        b.x.trouble(0, 1, 1);
        b.passAll(0, 1);
        said(b, 1, 0, 0, "2 0 1 1");
        state(b, 0, 1);
        kept = b.x.host(0, 4);
        b.x.pass(1, 0);
        state(b, 0, 0);
        b.due("kept", b.x.host(0, 4), kept + 1);
        b.step(0, 20);
        b.due("false is printed", b.x.line(0, 0, 0), 2);
        kept = b.x.host(0, 4);
        b.due("NO of move 1", b.x.pass(1, 0), 2);
        state(b, 0, 1);
        b.due("not kept", b.x.host(0, 4), kept);
        b.due("MOVES", b.x.traveller(0, 0, 2), 2);
    }

    /** "PART: whose SUM is not right, or of a move that is not COMING: nothing; else it is taken (if it is not there)." */
    private static void partsThatCome(Bench b) {
        offered(b, ON.replace("main{", "main{int[] r=new int[90];"));
        b.x.pass(0, 1);
        b.x.pass(1, 0);
        int parts = b.x.count(3);
        b.due("three", parts, 3);
        int kept = b.x.host(1, 4);
        b.due("spoilt", b.x.trouble(0, 1, 3), true);
        b.due("PART", b.x.pass(0, 1), 3);
        b.due("not taken", b.x.traveller(0, 1, 8), 0);
        b.x.trouble(0, 1, 1);
        b.x.pass(0, 1);
        b.due("taken", b.x.traveller(0, 1, 8), 1);
        b.x.pass(0, 1);
        b.due("taken", b.x.traveller(0, 1, 8), 2);
        b.x.pass(0, 1);
        b.due("there already", b.x.traveller(0, 1, 8), 2);
        b.due("not kept", b.x.host(1, 4), kept);
        state(b, 1, 4);
        b.x.tick(1);
        said(b, 1, 0, 0, "1 0 1 0");
        b.x.pass(1, 0);
        b.x.trouble(0, 1, 1);
        b.x.pass(0, 1);
        state(b, 1, 5);
        b.due("kept", b.x.host(1, 4), kept + 1);
        said(b, 1, 0, 0, "4 0 1");
        b.passAll(0, 1);
        said(b, 1, 0, 1, "-");
        b.due("kept once", b.x.host(1, 4), kept + 1);
        // to one that ACTS, and to a host that has it no more
        offered(b, ON);
        b.x.trouble(0, 1, 1);
        b.passAll(0, 1);
        b.passAll(1, 0);
        b.due("two PARTs", b.x.count(3), 2);
        b.x.trouble(0, 1, 1);
        b.x.pass(0, 1);
        b.due("WHOLE", b.x.pass(1, 0), 4);
        b.x.trouble(0, 1, 2);
        b.x.trouble(0, 1, 2);
        b.due("RELEASE", b.x.pass(0, 1), 5);
        state(b, 1, 0);
        b.due("PART", b.x.pass(0, 1), 3);
        state(b, 1, 0);
        b.due("DONE and a PART", b.x.count(3), 2);
    }

    /** "WHOLE: if that move is OFFERED or SENT from here: it is GONE, the host KEEPS itself, RELEASE goes; if it is GONE: RELEASE again." */
    private static void wholes(Bench b) {
        for (int fall = 0; fall < 2; fall++) {
            offered(b, ON);
            b.x.pass(0, 1);
            b.x.pass(1, 0);
            b.x.pass(0, 1);
            if (fall == 1) {
                b.x.power(0, 1);
                b.x.power(0, 2);
            }
            state(b, 0, fall == 1 ? 1 : 2);
            b.x.trouble(1, 0, 1);
            b.x.trouble(1, 0, 1);
            int kept = b.x.host(0, 4);
            b.due("WHOLE", b.x.pass(1, 0), 4);
            state(b, 0, 3);
            b.due("kept", b.x.host(0, 4), kept + 1);
            said(b, 0, 1, 0, "5 0 1");
            b.due("WHOLE again", b.x.pass(1, 0), 4);
            state(b, 0, 3);
            said(b, 0, 1, 1, "5 0 1");
            b.due("not kept", b.x.host(0, 4), kept + 1);
            b.passAll(0, 1);
            b.x.trouble(1, 0, 2);
            b.passAll(1, 0);
            state(b, 0, -1);
            b.due("WHOLE of one that is not here did nothing", b.x.count(3), 0);
        }
        // of an earlier move, and to one that is ACTING
        refusedAndComing(b);
        only(b, 0, 1, 3, 1);
        only(b, 0, 1, 3, 1);
        state(b, 1, 5);
        b.x.tick(1);
        only(b, 1, 0, 2, 1);
        int there = b.x.count(3);
        only(b, 1, 0, 4, 1);
        state(b, 0, 0);
        b.step(0, 20);
        state(b, 0, 1);
        int kept = b.x.host(0, 4);
        only(b, 1, 0, 4, 1);
        state(b, 0, 1);
        b.due("nothing goes but OFFER", b.x.count(3), there - 2 + 1);
        b.due("not kept", b.x.host(0, 4), kept);
    }

    /** "RELEASE: if it is HERE WHOLE, of that move: it is ACTING, behind its GO with true, ..; if that move, or a later one, is over here: DONE." */
    private static void releases(Bench b) {
        offered(b, FRO);
        b.x.pass(0, 1);
        b.x.pass(1, 0);
        b.x.pass(0, 1);
        b.x.pass(1, 0);
        b.x.trouble(0, 1, 1);
        b.x.trouble(0, 1, 1);
        int kept = b.x.host(1, 4);
        int place = b.x.frame(0, 1, 0, 1);
        b.due("RELEASE", b.x.pass(0, 1), 5);
        state(b, 1, 0);
        b.due("kept", b.x.host(1, 4), kept + 1);
        b.due("behind its GO", b.x.frame(0, 1, 0, 1), place + 1);
        b.due("with true", b.x.value(0, 1, 0, 0), 1);
        b.due("height", b.x.frame(0, 1, 0, 3), 1);
        said(b, 1, 0, 0, "6 0 1");
        b.due("RELEASE again: that move is over", b.x.pass(0, 1), 5);
        said(b, 1, 0, 1, "6 0 1");
        b.due("not kept", b.x.host(1, 4), kept + 1);
        b.due("place", b.x.frame(0, 1, 0, 1), place + 1);
        b.passAll(1, 0);
        // a later one is over
        offered(b, FRO);
        b.x.pass(0, 1);
        b.x.pass(1, 0);
        b.x.pass(0, 1);
        b.x.pass(1, 0);
        b.x.trouble(0, 1, 1);
        b.x.pass(0, 1);
        backAgain(b);
        b.due("RELEASE of move 1", b.x.pass(0, 1), 5);
        said(b, 1, 0, 0, "6 0 1");
        state(b, 1, 0);
    }

    /** Of a t that is not here, and of an earlier move than what is HERE WHOLE: "does nothing but what is told". */
    private static void lateOnes(Bench b) {
        // a second NO of move 1, when it went with move 2
        b.begin("main{go 1;go 2;while(true)1;}");
        for (int i = 0; i < 8; i++) {
            b.start(0, 1);
        }
        b.step(0, 20);
        b.x.trouble(0, 1, 1);
        b.passAll(0, 1);
        b.due("NO", b.x.pass(1, 0), 2);
        b.step(0, 20);
        over(b, 0, 2, 2);
        only(b, 2, 0, 6, 2);
        state(b, 0, -1);
        int kept = b.x.host(0, 4);
        b.due("NO of one that is not here", b.x.pass(1, 0), 2);
        state(b, 0, -1);
        b.due("not kept", b.x.host(0, 4), kept);
        b.due("nothing goes", b.x.count(3), 0);
        // a second RELEASE of move 1, when it went on with move 2
        b.begin("main{go 1;go 2;while(true)1;}");
        b.step(0, 20);
        b.x.pass(0, 1);
        b.x.pass(1, 0);
        b.x.pass(0, 1);
        b.x.pass(1, 0);
        b.x.trouble(0, 1, 1);
        b.x.pass(0, 1);
        b.step(1, 20);
        over(b, 1, 2, 2);
        only(b, 2, 1, 6, 2);
        state(b, 1, -1);
        kept = b.x.host(1, 4);
        b.x.trouble(1, 0, 0);
        b.due("RELEASE of one that is not here", b.x.pass(0, 1), 5);
        said(b, 1, 0, 0, "6 0 1");
        state(b, 1, -1);
        b.due("not kept", b.x.host(1, 4), kept);
        // a second RELEASE of move 1, when it is HERE WHOLE, or COMING, of move 3
        offered(b, FRO);
        b.x.pass(0, 1);
        b.x.pass(1, 0);
        b.x.pass(0, 1);
        b.x.pass(1, 0);
        b.x.trouble(0, 1, 1);
        b.x.trouble(0, 1, 1);
        b.x.pass(0, 1);
        only(b, 1, 0, 6, 1);
        b.step(1, 20);
        over(b, 1, 0, 2);
        only(b, 0, 1, 6, 2);
        b.step(0, 20);
        only(b, 0, 1, 0, 3);
        state(b, 1, 4);
        only(b, 0, 1, 5, 1);
        state(b, 1, 4);
        only(b, 1, 0, 6, 1);
        only(b, 1, 0, 1, 3);
        only(b, 0, 1, 3, 3);
        state(b, 1, 5);
        kept = b.x.host(1, 4);
        only(b, 0, 1, 5, 1);
        state(b, 1, 5);
        b.due("not kept", b.x.host(1, 4), kept);
        said(b, 1, 0, 1, "6 0 1");
        b.due("it does not act", b.step(1, 5), 0);
    }

    /** "DONE: if it is GONE: its record is no more." "(What is of another move than t's here .. does nothing ..)" */
    private static void dones(Bench b) {
        offered(b, FRO);
        over(b, 0, 1, 1);
        for (int i = 0; i < 6; i++) {
            b.x.trouble(1, 0, 1);
        }
        int kept = b.x.host(0, 4);
        b.due("DONE", b.x.pass(1, 0), 6);
        state(b, 0, -1);
        b.due("not kept", b.x.host(0, 4), kept);
        b.due("DONE of none", b.x.pass(1, 0), 6);
        b.due("nothing goes", b.x.count(3), 5);
        // more of move 1 come when t is COMING, HERE WHOLE, ACTING, OFFERED, GONE of later moves
        b.step(1, 20);
        only(b, 1, 0, 0, 2);
        only(b, 1, 0, 6, 1);
        state(b, 0, 4);
        only(b, 0, 1, 1, 2);
        only(b, 1, 0, 3, 2);
        only(b, 1, 0, 6, 1);
        state(b, 0, 5);
        only(b, 0, 1, 4, 2);
        only(b, 1, 0, 5, 2);
        only(b, 1, 0, 6, 1);
        state(b, 0, 0);
        b.step(0, 20);
        only(b, 1, 0, 6, 1);
        state(b, 0, 1);
        over(b, 0, 1, 3);
        b.due("MOVES", b.x.traveller(0, 0, 2), 3);
        only(b, 1, 0, 6, 1);
        state(b, 0, 3);
        only(b, 1, 0, 6, 3);
        state(b, 0, -1);
    }

    /** "GIVE UP: if it is HERE WHOLE, of that move: WHOLE again; if it, or a later one, is over here: DONE; else .. NO 3 goes." */
    private static void giveUps(Bench b) {
        // not here
        offered(b, ON);
        b.due("give up", b.x.giveUp(0, 0), true);
        said(b, 0, 1, 1, "7 0 1");
        b.x.trouble(0, 1, 0);
        int kept = b.x.host(1, 4);
        b.x.pass(0, 1);
        said(b, 1, 0, 0, "2 0 1 3");
        b.due("given up", b.x.host(1, 6), 1);
        b.due("kept", b.x.host(1, 4), kept + 1);
        // COMING
        offered(b, ON);
        b.x.pass(0, 1);
        b.x.giveUp(0, 0);
        kept = b.x.host(1, 4);
        b.x.pass(0, 1);
        state(b, 1, -1);
        said(b, 1, 0, 1, "2 0 1 3");
        b.due("given up", b.x.host(1, 6), 1);
        b.due("kept", b.x.host(1, 4), kept + 1);
        // HERE WHOLE
        offered(b, ON);
        b.x.pass(0, 1);
        b.x.pass(1, 0);
        b.x.giveUp(0, 0);
        b.x.pass(0, 1);
        kept = b.x.host(1, 4);
        b.x.pass(0, 1);
        state(b, 1, 5);
        said(b, 1, 0, 0, "4 0 1");
        said(b, 1, 0, 1, "4 0 1");
        b.due("not given up", b.x.host(1, 6), 0);
        b.due("not kept", b.x.host(1, 4), kept);
        // over, and a later one over
        offered(b, FRO);
        b.x.giveUp(0, 0);
        b.x.giveUp(0, 0);
        over(b, 0, 1, 1);
        kept = b.x.host(1, 4);
        only(b, 0, 1, 7, 1);
        said(b, 1, 0, 1, "6 0 1");
        b.x.trouble(1, 0, 0);
        b.due("not given up", b.x.host(1, 6), 0);
        b.due("not kept", b.x.host(1, 4), kept);
        backAgain(b);
        b.due("GIVE UP of move 1", b.x.pass(0, 1), 7);
        said(b, 1, 0, 0, "6 0 1");
        b.due("not given up", b.x.host(1, 6), 0);
        // of an earlier move than what is COMING, than what is HERE WHOLE
        refusedAndComing(b);
        b.x.giveUp(0, 0);
        b.x.giveUp(0, 0);
        only(b, 1, 0, 2, 1);
        b.step(0, 20);
        only(b, 0, 1, 0, 2);
        b.due("MOVES", b.x.traveller(0, 1, 2), 2);
        only(b, 0, 1, 7, 1);
        state(b, 1, 4);
        b.due("given up", b.x.host(1, 6), 1);
        said(b, 1, 0, 1, "2 0 1 3");
        only(b, 1, 0, 1, 2);
        only(b, 0, 1, 3, 2);
        only(b, 0, 1, 3, 2);
        state(b, 1, 5);
        only(b, 0, 1, 7, 1);
        state(b, 1, 5);
        b.due("given up", b.x.host(1, 6), 1);
        // that NO is of an earlier move
        only(b, 1, 0, 2, 1);
        state(b, 0, 2);
        // ACTING ones can't be given up, nor GONE, COMING, HERE WHOLE ones
        offered(b, ON);
        b.x.pass(0, 1);
        b.due("COMING", b.x.giveUp(0, 1), false);
        b.x.pass(1, 0);
        b.x.pass(0, 1);
        b.due("HERE WHOLE", b.x.giveUp(0, 1), false);
        b.x.pass(1, 0);
        b.due("GONE", b.x.giveUp(0, 0), false);
        b.x.pass(0, 1);
        b.due("ACTING", b.x.giveUp(0, 1), false);
        b.step(1, 20);
        b.due("ENDED or ACTING", b.x.giveUp(0, 1), false);
    }

    /** "To TICK: for each traveller here, in their order: OFFERED, SENT: OFFER ..; GONE: RELEASE; HERE WHOLE: WHOLE; COMING: READY". */
    private static void ticks(Bench b) {
        offered(b, ON);
        int size = b.x.pack(0, 0);
        int kept = b.x.host(0, 4);
        b.due("tick", b.x.tick(0), true);
        said(b, 0, 1, 1, "0 0 1 " + size + " 0");
        b.x.trouble(0, 1, 0);
        b.x.pass(0, 1);
        b.due("tick", b.x.tick(1), true);
        said(b, 1, 0, 1, "1 0 1 0");
        b.x.trouble(1, 0, 0);
        b.x.pass(1, 0);
        b.x.tick(0);
        said(b, 0, 1, 1, "0 0 1 " + size + " 0");
        b.due("SENT stays SENT", b.x.traveller(0, 0, 0), 2);
        b.x.pass(0, 1);
        b.x.tick(1);
        said(b, 1, 0, 1, "4 0 1");
        b.x.pass(1, 0);
        b.x.trouble(1, 0, 0);
        b.x.trouble(0, 1, 0);
        b.x.tick(0);
        said(b, 0, 1, 0, "5 0 1");
        said(b, 0, 1, 1, "5 0 1");
        b.due("kept but by WHOLE", b.x.host(0, 4), kept + 1);
        b.passAll(0, 1);
        int there = b.x.count(3);
        b.x.tick(1);
        b.due("ACTING: nothing", b.x.count(3), there);
        b.step(1, 20);
        b.due("ended or not", b.x.tick(1), true);
        b.due("nothing", b.x.count(3), there);
        b.due("no such", b.x.tick(-1), false);
        b.due("no such", b.x.tick(5), false);
        b.due("nobody there", b.x.tick(4), true);
        // in their order
        b.begin("main{go 1;}");
        for (int t = 1; t < 5; t++) {
            b.start(0, 0);
        }
        b.step(0, 9);
        b.passAll(0, 1);
        for (int i = 0; i < 5; i++) {
            b.x.trouble(1, 0, 0);
        }
        b.x.tick(0);
        b.x.tick(1);
        for (int i = 0; i < 5; i++) {
            b.due("in their order", b.x.message(0, 1, i, 1), i);
            b.due("in their order", b.x.message(1, 0, i, 1), i);
        }
    }

    /** "To KEEP itself: all that it has is put by as it is": each call and message that does, and how often. */
    private static void keeps(Bench b) {
        b.fresh();
        b.read(ON);
        b.due("at first", b.x.host(0, 4), 0);
        b.x.give(0, 0);
        b.due("give", b.x.host(0, 4), 1);
        b.x.give(0, 0);
        b.due("give in vain", b.x.host(0, 4), 1);
        b.start(0, 0);
        b.due("start", b.x.host(0, 4), 2);
        b.step(0, 3);
        b.due("step", b.x.host(0, 4), 2);
        b.x.power(0, 0);
        b.due("power 0", b.x.host(0, 4), 3);
        b.x.power(0, 1);
        b.due("power 1", b.x.host(0, 4), 3);
        b.x.power(0, 0);
        b.due("power 0 of a DOWN one", b.x.host(0, 4), 3);
        b.x.power(0, 2);
        b.due("power 2", b.x.host(0, 4), 3);
        b.x.tick(0);
        b.due("tick", b.x.host(0, 4), 3);
        b.step(0, 20);
        b.due("GO", b.x.host(0, 4), 4);
        b.x.give(1, 0);
        b.x.pass(0, 1);
        b.due("OFFER", b.x.host(1, 4), 1);
        b.x.pass(1, 0);
        b.due("READY", b.x.host(0, 4), 4);
        b.x.pass(0, 1);
        b.due("the last PART", b.x.host(1, 4), 2);
        b.x.pass(1, 0);
        b.due("WHOLE", b.x.host(0, 4), 5);
        b.x.pass(0, 1);
        b.due("RELEASE", b.x.host(1, 4), 3);
        b.x.pass(1, 0);
        b.due("DONE", b.x.host(0, 4), 5);
        b.step(1, 50);
        b.due("PUT, ANSWER and others", b.x.host(1, 4), 3);
        b.feed(new Bytes().nums(0, 0, b.x.program(0, 3), 0, 0, 0, 0, 0, 1, 0, 0, 0).packed());
        b.due("come", b.come(1), 1);
        b.due("come", b.x.host(1, 4), 4);
        b.x.pack(1, 1);
        b.x.giveUp(0, 0);
        b.due("pack", b.x.host(1, 4), 4);
    }

    /** Traveller t has t bytes more than traveller 0. */
    private static String sized(int long5) {
        return "class C{int[] r;int[] q;int[] s;int m(int n,int a,int b,int c){if(n>0)return m(n-1,a,b,c);"
            + "try{go 1;}catch(e){print e;}while(true)1;}}"
            + "main{C c=new C;c.r=new int[98];c.q=new int[98];c.s=new int[98];int i=0;int z=2147483647;"
            + "while(i<98){c.r[i]=z;c.q[i]=-z;c.s[i]=z;i=i+1;}i=0;while(i<59){if(i<" + long5 + "+self/4)print z;else print 1;i=i+1;}"
            + "i=self%4;if(i==0)print 1;if(i==1)print 100;if(i==2)print 10000;if(i==3)print 2000000;return c.m(9,z,z,z);}";
    }

    /** "(-4, and MOVES stay, if it would have more than 2,000 bytes PACKED so)": a byte more each time. */
    private static void largest(Bench b) {
        b.begin(sized(LONG));
        for (int t = 1; t < 8; t++) {
            b.start(0, 0);
        }
        for (int i = 0; i < 14; i++) {
            b.step(0, 500);
        }
        int first = b.x.pack(0, 0);
        b.due("sizes on both sides of 2,000, as " + first, first < 2000 && first + 7 > 2001, true);
        int go = 0;
        for (int t = 0; t < 8; t++) {
            int size = first + t;
            boolean goes = size <= 2000;
            b.due("STATE with " + size, b.x.traveller(t, 0, 0), goes ? 1 : 0);
            b.due("MOVES", b.x.traveller(t, 0, 2), goes ? 1 : 0);
            b.due("told -4", b.x.traveller(t, 0, 4), goes ? 60 : 61);
            if (goes) {
                b.due("PACKED", b.x.pack(t, 0), size);
                said(b, 0, 1, go, "0 " + t + " 1 " + size + " 0");
                go++;
            }
        }
        b.due("OFFERS", b.x.count(3), go);
        b.due("kept", b.x.host(0, 4), 9 + go);
        // the largest one comes whole
        for (int t = 0; t < go - 1; t++) {
            b.x.trouble(0, 1, 0);
        }
        for (int i = 0; i < 3; i++) {
            b.settle(0, 1);
            b.x.tick(1);
        }
        b.due("with 2,000 bytes", b.x.traveller(go - 1, 1, 0), 0);
        b.due("which is", first + go - 1, 2000);
    }

    /** One that wants to go with more than 2,000 bytes, from the tenth of the frames that m has. */
    private static String large(String inner, String outer) {
        return "class C{int[] r;int[] q;int[] s;int m(int n,int a,int b,int c){if(n>0)return m(n-1,a,b,c);" + inner
            + "}int k(int a,int b,bool c){return a;}}"
            + "main{C c=new C;c.r=new int[98];c.q=new int[98];c.s=new int[98];int i=0;int z=2147483647;"
            + "while(i<98){c.r[i]=z;c.q[i]=-z;c.s[i]=z;i=i+1;}i=0;while(i<60){print z;i=i+1;}" + outer + "}";
    }

    /** So many steps in all, of traveller 0 at 0. */
    private static void stepped(Bench b, int steps) {
        for (int left = steps - b.x.traveller(0, 0, 1); left > 0; left -= 500) {
            b.step(0, Math.min(left, 500));
        }
        b.due("steps", b.x.traveller(0, 0, 1), steps);
    }

    private static void staysAsItWas(Bench b) {
        b.due("MOVES stay", b.x.traveller(0, 0, 2), 0);
        b.due("nowhere", b.x.traveller(0, 0, 7), -1);
        b.due("no OFFER goes", b.x.count(3), 0);
        b.due("nor is lost", b.x.count(4), 0);
        b.due("kept by give and start alone", b.x.host(0, 4), 2);
    }

    /** "(-4, and MOVES stay ..)" as "To TELL" says it: without a HANDLER, with one of its frame, with one of a frame below. */
    private static void tooLarge(Bench b) {
        String asks = "return k(5,6,go 1);";
        String calls = "i=i+c.m(9,z,z,z);";
        b.begin(large(asks, calls));
        for (int i = 0; i < 14; i++) {
            b.step(0, 500);
        }
        state(b, 0, 8);
        b.due("FAILED with", b.x.traveller(0, 0, 6), -4);
        staysAsItWas(b);
        int steps = b.x.traveller(0, 0, 1);
        // a step ahead of that its frames are as they are behind it, as with all that is told to no HANDLER
        String failed = frames(b);
        b.begin(large(asks, calls));
        stepped(b, steps - 1);
        state(b, 0, 0);
        b.due("at its GO", b.x.instruction(0, b.x.frame(0, 0, 10, 1), 0), 23);
        b.due("frames", frames(b), failed);
        // a HANDLER of its frame
        b.begin(large("try{" + asks + "}catch(e){while(true)e;}", calls));
        stepped(b, steps - 1);
        int handler = b.x.instruction(0, b.x.frame(0, 0, 10, 1), 3);
        stepped(b, steps);
        state(b, 0, 0);
        b.due("frames", b.x.traveller(0, 0, 5), 11);
        b.due("goes on there", b.x.frame(0, 0, 10, 1), handler);
        b.due("alone on its stack", b.x.frame(0, 0, 10, 3), 1);
        b.due("that number", b.x.value(0, 0, 10, b.x.frame(0, 0, 10, 2)), -4);
        staysAsItWas(b);
        // a HANDLER of main; then it is small enough, and goes
        b.begin(large(asks, "try{" + calls + "}catch(e){c=null;go 1;}"));
        stepped(b, steps);
        state(b, 0, 0);
        b.due("frames above it are gone", b.x.traveller(0, 0, 5), 1);
        b.due("at the HANDLER", b.x.instruction(0, b.x.frame(0, 0, 0, 1), 0), 3);
        b.due("alone on its stack", b.x.frame(0, 0, 0, 3), 1);
        b.due("that number", b.x.value(0, 0, 0, b.x.frame(0, 0, 0, 2)), -4);
        staysAsItWas(b);
        b.step(0, 5);
        state(b, 0, 1);
        b.due("MOVES", b.x.traveller(0, 0, 2), 1);
        said(b, 0, 1, 0, "0 0 1 " + b.x.pack(0, 0) + " 0");
        b.due("kept", b.x.host(0, 4), 3);
    }

    /** Where the frames of traveller 0 at 0 are, and how high their stacks. */
    private static String frames(Bench b) {
        StringBuilder all = new StringBuilder();
        for (int i = 0; i < b.x.traveller(0, 0, 5); i++) {
            for (int what = 0; what < 4; what++) {
                all.append(b.x.frame(0, 0, i, what)).append(' ');
            }
        }
        return all.toString();
    }

    /** "PART t, move, k, and bytes 48 * k .. (48 at most)": sizes about where a part is full. */
    private static void firstParts(Bench b) {
        boolean[] seen = new boolean[48];
        for (int k = 0; k < 60; k++) {
            b.begin("main{int i=0;while(i<" + k + "){print 1;i=i+1;}go 1;while(true)1;}");
            b.step(0, 500);
            b.step(0, 500);
            int size = b.x.pack(0, 0);
            int parts = size / 48 + (size % 48 == 0 ? 0 : 1);
            seen[size % 48] = true;
            b.x.pass(0, 1);
            b.x.pass(1, 0);
            b.due("parts", b.x.count(3), parts);
            for (int i = 0; i < parts; i++) {
                said(b, 0, 1, i, "3 0 1 " + i + " " + (i < parts - 1 ? 48 : size - 48 * (parts - 1)));
            }
            for (int i = 0; i < parts - 1; i++) {
                b.x.pass(0, 1);
            }
            state(b, 1, 4);
            b.x.pass(0, 1);
            state(b, 1, 5);
        }
        b.due("full, a byte less, a byte more", seen[0] && seen[47] && seen[1], true);
    }

    /** "its PARTS go, from that one on, twenty at most": 20 parts that are full, a byte less, a byte more. */
    private static void twentyParts(Bench b) {
        for (int want = 959; want <= 961; want++) {
            int size = 0;
            for (int k = 0; k < 160 && size != want; k++) {
                // blanks make another sum of the text, which may be a byte longer
                int lines = 20 + k % 40;
                b.begin(" ".repeat(k / 40) + "main{int[] r=new int[100];int[] q=new int[80];int i=0;while(i<80){r[i]=2147483647;r[i+20]=-2147483647;"
                    + "q[i]=2147483647;i=i+1;}i=0;while(i<" + lines + "){print 1;i=i+1;}go 1;while(true)1;}");
                for (int i = 0; i < 8; i++) {
                    b.step(0, 500);
                }
                size = b.x.pack(0, 0);
            }
            b.due("size", size, want);
            b.x.pass(0, 1);
            b.x.pass(1, 0);
            b.due("twenty", b.x.count(3), 20);
            said(b, 0, 1, 19, "3 0 1 19 " + (want == 959 ? 47 : 48));
            b.passAll(0, 1);
            state(b, 1, want == 961 ? 4 : 5);
            b.due("parts", b.x.traveller(0, 1, 8), want == 961 ? 20 : 0);
            b.x.tick(1);
            said(b, 1, 0, want == 961 ? 0 : 1, want == 961 ? "1 0 1 20" : "4 0 1");
        }
        b.x.pass(1, 0);
        said(b, 0, 1, 0, "3 0 1 20 1");
        said(b, 0, 1, 1, "-");
        // the only byte that it has is turned over
        b.due("spoilt", b.x.trouble(0, 1, 3), true);
        b.x.pass(0, 1);
        b.due("not taken", b.x.traveller(0, 1, 8), 20);
        b.x.tick(1);
        b.x.pass(1, 0);
        b.x.pass(0, 1);
        state(b, 1, 5);
    }

    /** "MESSAGES, the oldest first, 40 at most; one that finds no room is lost." */
    private static void fullLine(Bench b) {
        offered(b, ON);
        for (int n = 2; n <= 40; n++) {
            b.due("doubled", b.x.trouble(0, 1, 1), true);
            b.due("on lines", b.x.count(3), n);
        }
        b.due("no room to double", b.x.trouble(0, 1, 1), false);
        b.due("nothing is lost by that", b.x.count(4), 0);
        b.x.tick(0);
        b.due("forty", b.x.count(3), 40);
        b.due("lost", b.x.count(4), 1);
        b.due("GIVE UP goes, and is lost", b.x.giveUp(0, 0), true);
        b.due("lost", b.x.count(4), 2);
        said(b, 0, 1, 40, "-");
        b.due("the last", b.x.message(0, 1, 39, 0), 0);
        // the other way there is room
        b.due("room the other way", b.x.trouble(1, 0, 1), false);
        b.x.trouble(0, 1, 0);
        b.due("lost by trouble", b.x.count(4), 3);
        b.due("thirty-nine", b.x.count(3), 39);
        b.due("GIVE UP", b.x.giveUp(0, 0), true);
        said(b, 0, 1, 39, "7 0 1");
        b.due("lost", b.x.count(4), 3);
        // behind all in a full line, all the way round
        b.x.trouble(0, 1, 2);
        said(b, 0, 1, 38, "7 0 1");
        for (int i = 0; i < 38; i++) {
            b.due("behind all", b.x.trouble(0, 1, 2), true);
        }
        said(b, 0, 1, 0, "7 0 1");
        b.due("forty", b.x.count(3), 40);
        b.due("pass", b.x.pass(0, 1), 7);
        b.due("thirty-nine and NO", b.x.count(3), 40);
        b.due("doubled", b.x.trouble(0, 1, 1), true);
        b.due("no room", b.x.trouble(0, 1, 1), false);
    }

    /** PARTs that find no room are lost, each; those ahead of them go. */
    private static void partsWithoutRoom(Bench b) {
        for (int room : new int[] {0, 1, 2, 3, 4}) {
            offered(b, ON.replace("main{", "main{int[] r=new int[90];"));
            b.x.trouble(0, 1, 1);
            b.x.pass(0, 1);
            while (b.x.count(3) < 1 + 40 - room) {
                b.x.trouble(0, 1, 1);
            }
            b.due("READY", b.x.pass(1, 0), 1);
            b.due("three PARTs", b.x.count(3), 40 - room + Math.min(3, room));
            b.due("lost", b.x.count(4), Math.max(0, 3 - room));
            state(b, 0, 2);
            for (int i = 0; i < Math.min(3, room); i++) {
                b.due("k", b.x.message(0, 1, 40 - room + i, 3), i);
            }
            // those that went are as good as ever; the others are asked for
            for (int i = 0; i < 40 - room; i++) {
                b.x.trouble(0, 1, 0);
            }
            b.passAll(0, 1);
            state(b, 1, room >= 3 ? 5 : 4);
            b.due("parts", b.x.traveller(0, 1, 8), room >= 3 ? 0 : room);
            b.x.tick(1);
            b.settle(0, 1);
            state(b, 1, 0);
            b.due("none was given up", b.x.host(1, 6), 0);
        }
    }

    /** Promise 12 with a MESSAGE alone on its line, and with none. */
    private static void lineOfOne(Bench b) {
        offered(b, ON);
        String offer = b.said(0, 1, 0);
        b.due("behind all others, of which there are none", b.x.trouble(0, 1, 2), true);
        said(b, 0, 1, 0, offer);
        b.due("no PART", b.x.trouble(0, 1, 3), false);
        for (int how : new int[] {-1, 4, 5, Integer.MAX_VALUE, Integer.MIN_VALUE}) {
            b.due("how " + how, b.x.trouble(0, 1, how), false);
        }
        said(b, 0, 1, 0, offer);
        b.due("doubled", b.x.trouble(0, 1, 1), true);
        said(b, 0, 1, 1, offer);
        b.due("lost", b.x.trouble(0, 1, 0), true);
        b.due("lost", b.x.trouble(0, 1, 0), true);
        b.due("lost", b.x.count(4), 2);
        for (int how = 0; how < 4; how++) {
            b.due("none, how " + how, b.x.trouble(0, 1, how), false);
            b.due("not to itself", b.x.trouble(1, 1, how), false);
        }
        b.due("none", b.x.pass(0, 1), -1);
        b.due("lost", b.x.count(4), 2);
        // as many trips round the ring as can be
        b.x.tick(0);
        for (int i = 0; i < 100; i++) {
            b.x.trouble(0, 1, 1);
            b.x.trouble(0, 1, 0);
        }
        said(b, 0, 1, 0, offer);
        b.due("one", b.x.count(3), 1);
        b.due("lost", b.x.count(4), 102);
    }

    /** "the move was given up here (a row of moves, each once, the latest 30)": what was the first of them is forgotten with the 31st. */
    private static void thirtyGivenUp(Bench b) {
        b.begin(ON);
        b.step(0, 20);
        for (int i = 1; i <= 31; i++) {
            // OFFER 1 is the oldest on the line, and stays there
            b.x.giveUp(0, 0);
            b.x.trouble(0, 1, 2);
            if (i > 1) {
                b.x.trouble(0, 1, 0);
            }
            if (i >= 30) {
                // of the first move: is it still known?
                b.x.trouble(0, 1, 2);
                b.x.trouble(0, 1, 1);
                b.due("OFFER 1", b.x.pass(0, 1), 0);
                said(b, 1, 0, 0, "2 0 1 3");
                b.x.trouble(1, 0, 0);
            }
            b.due("GIVE UP", b.x.pass(0, 1), 7);
            b.due("given up", b.x.host(1, 6), Math.min(i, 30));
            b.due("NO", b.x.pass(1, 0), 2);
            b.due("ACTING", b.x.traveller(0, 0, 0), 0);
            if (i < 31) {
                b.step(0, 20);
            }
        }
        b.due("OFFER 1", b.x.pass(0, 1), 0);
        said(b, 1, 0, 0, "1 0 1 0");
        b.due("forgotten", b.x.traveller(0, 1, 0), 4);
    }

    /** The row has moves of all travellers, each with its own. */
    private static void thirtyOfTwo(Bench b) {
        b.begin("main{while(true)go 1;}");
        b.start(0, 0);
        for (int move = 1; move <= 16; move++) {
            b.step(0, 9);
            for (int t = 0; t < 2; t++) {
                b.x.giveUp(t, 0);
            }
            if (move == 1) {
                // their first OFFERS stay on the line
                b.x.trouble(0, 1, 2);
                b.x.trouble(0, 1, 2);
            } else {
                b.x.trouble(0, 1, 2);
                b.x.trouble(0, 1, 2);
                b.x.trouble(0, 1, 0);
                b.x.trouble(0, 1, 0);
            }
            for (int t = 0; t < 2; t++) {
                b.due("GIVE UP", b.x.message(0, 1, 0, 0), 7);
                b.x.pass(0, 1);
                int given = 2 * move - 1 + t;
                b.due("given up", b.x.host(1, 6), Math.min(30, given));
                if (given == 31) {
                    // on the line: GIVE UP of 1, the OFFERS of move 1 of 0 and of 1; that of 1 is still known
                    b.x.trouble(0, 1, 2);
                    b.x.trouble(0, 1, 2);
                    b.due("of 1", b.x.message(0, 1, 0, 1), 1);
                    b.x.trouble(0, 1, 1);
                    b.x.pass(0, 1);
                    said(b, 1, 0, 1, "2 1 1 3");
                    b.x.trouble(1, 0, 2);
                    b.x.trouble(1, 0, 0);
                }
            }
            b.passAll(1, 0);
            if (move == 15) {
                // thirty: both are known
                b.x.trouble(0, 1, 1);
                b.x.pass(0, 1);
                b.x.trouble(0, 1, 1);
                b.x.pass(0, 1);
                said(b, 1, 0, 0, "2 0 1 3");
                said(b, 1, 0, 1, "2 1 1 3");
                b.passAll(1, 0);
            }
        }
        // thirty-two: both are forgotten; move 2 of each is known, as OFFERS of it would be
        b.x.pass(0, 1);
        b.x.pass(0, 1);
        said(b, 1, 0, 0, "1 0 1 0");
        said(b, 1, 0, 1, "1 1 1 0");
        // of traveller 1 alone: that of 0 with the same number is not meant
        b.begin(ON);
        b.start(0, 0);
        b.step(0, 20);
        b.x.giveUp(1, 0);
        b.x.trouble(0, 1, 2);
        b.x.trouble(0, 1, 2);
        b.due("GIVE UP", b.x.pass(0, 1), 7);
        b.x.pass(0, 1);
        b.x.pass(0, 1);
        said(b, 1, 0, 0, "2 1 1 3");
        said(b, 1, 0, 1, "1 0 1 0");
        said(b, 1, 0, 2, "2 1 1 3");
    }

    /** "its record is no more": those behind it come forward, in their order, as they are. */
    private static void recordsThatGo(Bench b) {
        for (int away = 0; away < 4; away++) {
            b.begin("main{print self+50;if(self==" + away + ")go 1;while(true)1;}");
            for (int t = 1; t < 4; t++) {
                b.start(0, 0);
            }
            b.step(0, 20);
            b.settle(0, 1);
            b.due("three", b.x.host(0, 1), 3);
            b.due("it is away", b.x.traveller(away, 0, 0), -1);
            for (int i = 0; i < 4; i++) {
                int t = i < away ? i : i + 1;
                b.due("in their order", b.x.at(0, i), i < 3 ? t : -1);
                if (i < 3) {
                    b.due("as they are", b.x.line(t, 0, 0), t + 50);
                    b.due("ACTING", b.x.traveller(t, 0, 0), 0);
                }
            }
            b.due("there", b.x.line(away, 1, 0), away + 50);
            b.due("the last one then", b.start(0, 0), 4);
            b.due("the last one", b.x.at(0, 3), 4);
            b.due("with nothing", b.x.traveller(4, 0, 4), 0);
            b.x.power(0, 0);
            b.x.power(0, 1);
            for (int i = 0; i < 3; i++) {
                b.due("put by in their order", b.x.at(0, i), i < away ? i : i + 1);
            }
        }
    }

    /** All thirty at one host, most of them ENDED; the last and the first one go and come back. */
    private static void thirtyAtOneHost(Bench b) {
        b.begin("main{if(self==29){go 1;go 0;}return self;}");
        for (int t = 1; t < 30; t++) {
            b.step(0, 9);
            b.start(0, 0);
        }
        b.step(0, 9);
        b.due("thirty", b.x.host(0, 1), 30);
        b.due("the last one", b.x.at(0, 29), 29);
        b.due("no more", b.x.at(0, 30), -1);
        b.settle(0, 1);
        b.due("it is away", b.x.host(0, 1), 29);
        b.step(1, 9);
        b.settle(0, 1);
        b.due("it is back", b.x.host(0, 1), 30);
        b.due("the last one", b.x.at(0, 29), 29);
        b.x.power(0, 0);
        b.x.power(0, 1);
        b.due("all are put by", b.x.host(0, 1), 30);
        b.x.power(0, 2);
        b.step(0, 9);
        for (int t = 0; t < 30; t++) {
            b.due("end", b.x.traveller(t, 0, 6), t);
        }
    }

    /** "each once". */
    private static void givenUpOnce(Bench b) {
        offered(b, ON);
        for (int i = 1; i <= 5; i++) {
            b.x.giveUp(0, 0);
        }
        b.x.trouble(0, 1, 0);
        for (int i = 1; i <= 5; i++) {
            b.due("GIVE UP", b.x.pass(0, 1), 7);
            b.due("given up", b.x.host(1, 6), 1);
            b.due("kept each time", b.x.host(1, 4), 1 + i);
            said(b, 1, 0, i - 1, "2 0 1 3");
        }
        // it is put by with the host
        b.x.power(1, 1);
        b.due("given up", b.x.host(1, 6), 1);
        b.x.power(1, 2);
        b.x.tick(0);
        b.x.pass(0, 1);
        said(b, 1, 0, 5, "2 0 1 3");
    }

    /** "Host h KEEPS itself (how 0), FALLS (1), COMES BACK (2): false if .. it is DOWN (0, 1) or UP (2) already, or for another how." */
    private static void powers(Bench b) {
        b.fresh();
        for (int h : new int[] {0, 4}) {
            for (int how : new int[] {Integer.MIN_VALUE, -1, 2, 3, Integer.MAX_VALUE}) {
                b.due("UP, how " + how, b.x.power(h, how), false);
            }
            b.due("not kept", b.x.host(h, 4), 0);
            b.due("UP, how 0", b.x.power(h, 0), true);
            b.due("UP", b.x.host(h, 0), 1);
            b.due("UP, how 1", b.x.power(h, 1), true);
            b.due("DOWN", b.x.host(h, 0), 0);
            for (int how : new int[] {Integer.MIN_VALUE, -1, 0, 1, 3, Integer.MAX_VALUE}) {
                b.due("DOWN, how " + how, b.x.power(h, how), false);
            }
            b.due("DOWN", b.x.host(h, 0), 0);
            b.due("DOWN, how 2", b.x.power(h, 2), true);
            b.due("UP", b.x.host(h, 0), 1);
            b.due("kept once", b.x.host(h, 4), 1);
        }
        for (int h : new int[] {-1, 5, Integer.MAX_VALUE, Integer.MIN_VALUE}) {
            for (int how = 0; how < 3; how++) {
                b.due("no such", b.x.power(h, how), false);
            }
        }
    }

    /** "At first a host has nothing, and that is put by." */
    private static void nothingAtFirst(Bench b) {
        b.fresh();
        b.read(ON);
        for (int h = 0; h < 5; h++) {
            b.due("fall", b.x.power(h, 1), true);
            for (int what = 1; what < 7; what++) {
                b.due("nothing", b.x.host(h, what), 0);
            }
            b.due("give", b.x.give(h, 0), false);
            b.due("back", b.x.power(h, 2), true);
            for (int what = 1; what < 7; what++) {
                b.due("nothing", b.x.host(h, what), 0);
            }
            b.due("start", b.start(0, h), Bench.ILLEGAL_STATE);
            b.due("give", b.x.give(h, 0), true);
        }
    }

    /** "What a host that is DOWN is sent is lost when it comes", "What is on LINES stays there." */
    private static void downHosts(Bench b) {
        offered(b, ON);
        b.x.power(0, 1);
        b.x.power(1, 1);
        b.due("it stays there", b.x.count(3), 1);
        b.due("from a DOWN one to a DOWN one", b.x.pass(0, 1), 0);
        b.due("lost", b.x.count(4), 1);
        b.due("none", b.x.count(3), 0);
        b.x.power(1, 2);
        b.x.power(0, 2);
        b.x.tick(0);
        b.x.power(0, 1);
        b.due("from a DOWN one", b.x.pass(0, 1), 0);
        state(b, 1, 4);
        b.due("trouble of a DOWN one's line", b.x.trouble(1, 0, 1), true);
        b.due("lost", b.x.pass(1, 0), 1);
        b.due("lost", b.x.count(4), 2);
        b.x.power(0, 2);
        b.due("comes", b.x.pass(1, 0), 1);
        state(b, 0, 2);
        b.due("not lost", b.x.count(4), 2);
        // what is asked of a DOWN host is asked of what was put by
        b.x.power(0, 1);
        state(b, 0, 1);
        b.due("pack of a DOWN one", b.x.pack(0, 0) > 0, true);
        b.due("giveUp at a DOWN one", b.x.giveUp(0, 0), false);
        b.due("tick at a DOWN one", b.x.tick(0), false);
        b.due("at", b.x.at(0, 0), 0);
        b.due("step at a DOWN one", b.step(0, 1), Bench.ILLEGAL_STATE);
    }
}
