import java.util.Arrays;

/**
 * Programs that go from host to host with all they have. The document tells what every call answers; the classes
 * inside are, from the text on: Tokens, Scope, Reader, Program; what runs: Heap, Traveller, Engine; where it runs:
 * State, Line; and the form in which it goes: Packer, Unpacker.
 */
public final class TravelHouse {
    public static final int NONE = -1;

    private static final int TAPE = 4000;
    private static final int HOSTS = 5;
    private static final int PROGRAMS = 8;
    private static final int TRAVELLERS = 30;
    private static final int BUSY = 8;
    private static final int GREATEST = 2147483647;

    private static final int ACTING = 0;
    private static final int OFFERED = 1;
    private static final int SENT = 2;
    private static final int GONE = 3;
    private static final int COMING = 4;
    private static final int HERE_WHOLE = 5;
    private static final int WAITING = 6;
    private static final int ENDED = 7;
    private static final int FAILED = 8;

    private static final int OFFER = 0;
    private static final int READY = 1;
    private static final int NO = 2;
    private static final int PART = 3;
    private static final int WHOLE = 4;
    private static final int RELEASE = 5;
    private static final int DONE = 6;
    private static final int GIVE_UP = 7;
    private static final int CALL = 8;
    private static final int ANSWER = 9;

    private static final int NO_PROGRAM = 1;
    private static final int NO_PLACE = 2;
    private static final int GIVEN_UP = 3;

    private final byte[] tape = new byte[TAPE];
    private int fed = 0;
    private final Reader reader = new Reader();
    private final Engine engine = new Engine();
    private final Unpacker unpacker = new Unpacker();
    private final Packer outside = new Packer();
    private int faultPlace = NONE;

    public TravelHouse() {
    }

    // ---- programs

    public int feed(int a, int b, int c, int d, int e) {
        if (fed > TAPE - 20) {
            return NONE;
        }
        feedInt(a);
        feedInt(b);
        feedInt(c);
        feedInt(d);
        feedInt(e);
        return fed;
    }

    private void feedInt(int bits) {
        for (int shift = 24; shift >= 0; shift -= 8) {
            tape[fed] = (byte) (bits >> shift);
            fed++;
        }
    }

    public int back(int n) {
        if (n < 0 || n > fed) {
            return NONE;
        }
        fed -= n;
        return fed;
    }

    public int read() {
        reader.cut(tape, fed);
        reader.readAll(true);
        if (!reader.hasTextFault()) {
            reader.settle();
            reader.readAll(false);
        }
        int fault = reader.faultFound(engine.programCount < PROGRAMS);
        int sum = (int) (Packer.sumOf(tape, 0, fed) & 0xFFFF);
        fed = 0;
        if (fault != 0) {
            return -fault;
        }
        int number = engine.programCount;
        engine.programs[number] = reader.newProgram(sum);
        engine.programCount++;
        return number;
    }

    public int program(int p, int what) {
        Program code = engine.known(p);
        if (code == null) {
            return NONE;
        }
        switch (what) {
            case 0: return code.classCount;
            case 1: return code.methodCount;
            case 2: return code.count;
            case 3: return code.sum;
            default: return NONE;
        }
    }

    public int method(int p, int m, int what) {
        Program code = engine.known(p);
        if (code == null || m < 0 || m >= code.methodCount) {
            return NONE;
        }
        switch (what) {
            case 0: return code.methodClass[m];
            case 1: return code.methodParameters[m];
            case 2: return code.methodSlots[m];
            case 3: return code.methodFirst[m];
            case 4: return Program.kindOf(code.methodType[m]);
            default: return NONE;
        }
    }

    public int instruction(int p, int k, int what) {
        Program code = engine.known(p);
        if (code == null || k < 0 || k >= code.count) {
            return NONE;
        }
        switch (what) {
            case 0: return code.operation[k];
            case 1: return code.first[k];
            case 2: return code.second[k];
            case 3: return code.handler[k];
            case 4: return code.heightAt(k);
            default: return NONE;
        }
    }

    // ---- hosts and lines

    public boolean give(int h, int p) {
        if (!isUp(h) || engine.known(p) == null || engine.now[h].has(p)) {
            return false;
        }
        engine.now[h].programs |= 1 << p;
        engine.keep(h);
        return true;
    }

    public int start(int p, int h) throws IllegalArgumentException, IllegalStateException {
        Program code = engine.known(p);
        if (code == null || !isHost(h)) {
            throw new IllegalArgumentException("no such program or host");
        }
        if (!engine.takesOneMore(h) || !engine.now[h].has(p)) {
            throw new IllegalStateException("this host can't begin a traveller of this program now");
        }
        Traveller w = engine.now[h].newTraveller();
        w.begin(engine.begun, p);
        w.enter(code, code.methodCount - 1, 0, 0);
        engine.begun++;
        engine.keep(h);
        return w.number;
    }

    public int step(int h, int n) throws IllegalArgumentException, IllegalStateException {
        if (!isHost(h) || n < 0 || n > 500) {
            throw new IllegalArgumentException("no such host, or not 0 .. 500 steps");
        }
        if (!engine.up[h]) {
            throw new IllegalStateException("the host is down");
        }
        return engine.runAll(h, n);
    }

    public int pass(int h, int g) {
        Line between = lineBetween(h, g);
        if (between == null || between.count == 0) {
            return NONE;
        }
        int sort = between.numberOf(0, 0);
        if (engine.up[g]) {
            arrive(h, g, between);
        } else {
            engine.lost++;
        }
        between.dropOldest();
        return sort;
    }

    public boolean trouble(int h, int g, int how) {
        Line between = lineBetween(h, g);
        if (between == null || between.count == 0) {
            return false;
        }
        switch (how) {
            case 0:
                between.dropOldest();
                engine.lost++;
                return true;
            case 1: return between.doubleOldest();
            case 2:
                between.oldestBehindAll();
                return true;
            case 3: return between.spoilOldest();
            default: return false;
        }
    }

    public boolean tick(int h) {
        if (!isUp(h)) {
            return false;
        }
        State state = engine.now[h];
        for (int i = 0; i < state.count; i++) {
            remind(state.travellers[i], h);
        }
        return true;
    }

    private void remind(Traveller w, int here) {
        switch (w.state) {
            case OFFERED:
            case SENT:
                engine.sendOffer(here, w);
                break;
            case GONE:
                engine.send(here, w.other, RELEASE, w.number, w.moves);
                break;
            case HERE_WHOLE:
                engine.send(here, w.other, WHOLE, w.number, w.moves);
                break;
            case COMING:
                engine.sendReady(here, w.other, w);
                break;
            case WAITING:
                engine.sendCall(here, w);
                break;
            default:
                break;
        }
    }

    public boolean power(int h, int how) {
        if (!isHost(h) || how < 0 || how > 2 || engine.up[h] == (how == 2)) {
            return false;
        }
        if (how == 0) {
            engine.keep(h);
        } else if (how == 1) {
            engine.up[h] = false;
        } else {
            engine.now[h].copyFrom(engine.kept[h]);
            engine.up[h] = true;
        }
        return true;
    }

    public boolean giveUp(int t, int h) {
        if (!isUp(h)) {
            return false;
        }
        Traveller w = engine.now[h].find(t);
        if (w == null || !w.isOnItsWay()) {
            return false;
        }
        engine.send(h, w.other, GIVE_UP, t, w.moves);
        return true;
    }

    // ---- what is asked

    public int count(int what) {
        switch (what) {
            case 0: return fed;
            case 1: return engine.programCount;
            case 2: return engine.begun;
            case 3: return engine.messages();
            case 4: return engine.lost;
            case 5: return outside.count;
            default: return NONE;
        }
    }

    public int host(int h, int what) {
        if (!isHost(h)) {
            return NONE;
        }
        State state = engine.seen(h);
        switch (what) {
            case 0: return engine.up[h] ? 1 : 0;
            case 1: return state.count;
            case 2: return state.keys;
            case 3: return state.things;
            case 4: return engine.keeps[h];
            case 5: return state.programs;
            case 6: return state.givenUps;
            default: return NONE;
        }
    }

    public int at(int h, int i) {
        if (!isHost(h)) {
            return NONE;
        }
        State state = engine.seen(h);
        return i < 0 || i >= state.count ? NONE : state.travellers[i].number;
    }

    public int traveller(int t, int h, int what) {
        Traveller w = travellerSeen(t, h);
        if (w == null) {
            return NONE;
        }
        switch (what) {
            case 0: return w.state;
            case 1: return w.steps;
            case 2: return w.moves;
            case 3: return w.calls;
            case 4: return w.lines;
            case 5: return w.frames;
            case 6: return w.result;
            case 7: return w.state >= OFFERED && w.state <= HERE_WHOLE ? w.other : NONE;
            case 8: return w.state == COMING ? Long.bitCount(w.parts) : 0;
            case 9: return w.program;
            case 10:
                engine.tidy(w);
                return w.heap.count;
            default: return NONE;
        }
    }

    public int line(int t, int h, int i) {
        Traveller w = travellerSeen(t, h);
        return w == null || i < 0 || i >= w.keptLines() ? 0 : w.printed[i];
    }

    public int frame(int t, int h, int i, int what) {
        Traveller w = travellerSeen(t, h);
        if (w == null || i < 0 || i >= w.frames) {
            return NONE;
        }
        int slots = engine.programs[w.program].methodSlots[w.method[i]];
        switch (what) {
            case 0: return w.method[i];
            case 1: return w.place[i];
            case 2: return slots;
            case 3: return w.sizeOf(i) - slots;
            default: return NONE;
        }
    }

    public int value(int t, int h, int i, int k) {
        Traveller w = travellerSeen(t, h);
        if (w == null || i < 0 || i >= w.frames || k < 0 || k >= w.sizeOf(i)) {
            return 0;
        }
        engine.tidy(w);
        return asTold(w.typeOf(engine.programs[w.program], i, k), w.values[w.base[i] + k]);
    }

    public int cell(int t, int h, int o, int k) {
        Traveller w = travellerSeen(t, h);
        if (w == null || o < 0) {
            return 0;
        }
        engine.tidy(w);
        Heap heap = w.heap;
        if (o >= heap.count || k < -2 || k >= heap.lengthOf(o)) {
            return 0;
        }
        if (k == -1) {
            return heap.sort[o];
        }
        if (k == -2) {
            return heap.lengthOf(o);
        }
        return asTold(heap.typeOf(engine.programs[w.program], o, k), heap.cells[heap.start[o] + k]);
    }

    public int board(int h, int k) {
        return isHost(h) ? engine.seen(h).boardValue(k) : 0;
    }

    public int thing(int h, int n, int k) {
        if (!isHost(h)) {
            return 0;
        }
        State state = engine.seen(h);
        if (n < 0 || n >= state.things) {
            return 0;
        }
        Heap heap = state.shelf[n];
        if (k < 0 || k >= heap.lengthOf(0)) {
            return 0;
        }
        int type = heap.typeOf(engine.programs[heap.program], 0, k);
        return Program.kindOf(type) == 0 ? heap.cells[heap.start[0] + k] : 0;
    }

    public int message(int h, int g, int i, int what) {
        Line between = lineBetween(h, g);
        return between == null ? NONE : between.numberOf(i, what);
    }

    public int pack(int t, int h) {
        Traveller w = travellerSeen(t, h);
        if (w == null || w.state != ACTING && !w.isOnItsWay()) {
            return NONE;
        }
        engine.tidy(w);
        outside.write(w, engine.programs[w.program]);
        return outside.count;
    }

    public int out(int k) {
        return k < 0 || k >= outside.count ? NONE : outside.bytes[k] & 255;
    }

    public int come(int h) throws IllegalArgumentException, IllegalStateException {
        if (!isHost(h)) {
            throw new IllegalArgumentException("no such host");
        }
        if (!engine.takesOneMore(h)) {
            throw new IllegalStateException("this host can't take a traveller now");
        }
        State state = engine.now[h];
        int fault = unpacker.unpack(tape, fed, 0, engine.programs, state.programs);
        fed = 0;
        if (fault != 0) {
            faultPlace = unpacker.faultPlace;
            return -1 - fault;
        }
        faultPlace = NONE;
        Traveller w = state.newTraveller();
        w.copyFrom(unpacker.into);
        w.number = engine.begun;
        w.moves = 0;
        w.calls = 0;
        engine.begun++;
        engine.keep(h);
        return w.number;
    }

    public int place() {
        return faultPlace;
    }

    // ---- what these rest on

    private boolean isHost(int h) {
        return h >= 0 && h < HOSTS;
    }

    private boolean isUp(int h) {
        return isHost(h) && engine.up[h];
    }

    private Line lineBetween(int h, int g) {
        return isHost(h) && isHost(g) ? engine.lines[h * HOSTS + g] : null;
    }

    private Traveller travellerSeen(int t, int h) {
        return isHost(h) ? engine.seen(h).find(t) : null;
    }

    /** OBJECTS and THINGS are held as one more than they are told, so that a cell that is 0 is null. */
    private static int asTold(int type, int held) {
        return Program.kindOf(type) == 0 ? held : held - 1;
    }

    // ---- what comes to a host

    private void arrive(int from, int here, Line between) {
        int t = between.numberOf(0, 1);
        int move = between.numberOf(0, 2);
        Traveller w = engine.now[here].find(t);
        switch (between.numberOf(0, 0)) {
            case OFFER:
                offerComes(from, here, between, w);
                break;
            case READY:
                readyComes(from, here, w, move, between.numberOf(0, 3));
                break;
            case NO:
                noComes(here, w, move);
                break;
            case PART:
                partComes(from, here, between, w);
                break;
            case WHOLE:
                wholeComes(from, here, w, move);
                break;
            case RELEASE:
                releaseComes(from, here, w, t, move);
                break;
            case DONE:
                if (w != null && w.state == GONE && w.moves == move) {
                    engine.now[here].remove(t);
                }
                break;
            case GIVE_UP:
                giveUpComes(from, here, w, t, move);
                break;
            case CALL:
                callComes(from, here, between);
                break;
            default:
                if (w != null && w.state == WAITING && w.calls == move) {
                    engine.hearAnswer(w, between.numberOf(0, 3), between.numberOf(0, 4));
                }
                break;
        }
    }

    private void offerComes(int from, int here, Line between, Traveller w) {
        State state = engine.now[here];
        int t = between.numberOf(0, 1);
        int move = between.numberOf(0, 2);
        if (state.over[t] >= move) {
            engine.send(here, from, DONE, t, move);
        } else if (state.wasGivenUp(t, move)) {
            engine.sendNo(here, from, t, move, GIVEN_UP);
        } else if (w == null) {
            welcome(from, here, between);
        } else if (w.state == COMING && w.moves == move) {
            engine.sendReady(here, from, w);
        } else if (w.state == HERE_WHOLE && w.moves == move) {
            engine.send(here, from, WHOLE, t, move);
        } else if (w.state >= GONE && w.state <= HERE_WHOLE && w.moves < move) {
            state.remove(t);
            welcome(from, here, between);
        }
    }

    private void welcome(int from, int here, Line between) {
        State state = engine.now[here];
        int t = between.numberOf(0, 1);
        int move = between.numberOf(0, 2);
        int program = between.numberOf(0, 4);
        if (!state.has(program)) {
            engine.sendNo(here, from, t, move, NO_PROGRAM);
        } else if (state.busy() >= BUSY) {
            engine.sendNo(here, from, t, move, NO_PLACE);
        } else {
            Traveller w = state.newTraveller();
            w.begin(t, program);
            w.state = COMING;
            w.moves = move;
            w.other = from;
            w.size = between.numberOf(0, 3);
            engine.sendReady(here, from, w);
        }
    }

    private void readyComes(int from, int here, Traveller w, int move, int lacking) {
        if (w != null && w.isOnItsWay() && w.moves == move) {
            w.state = SENT;
            engine.sendParts(here, from, w, lacking);
        }
    }

    private void noComes(int here, Traveller w, int move) {
        if (w != null && w.isOnItsWay() && w.moves == move) {
            w.state = ACTING;
            w.goOn(0);
            engine.keep(here);
        }
    }

    private void partComes(int from, int here, Line between, Traveller w) {
        int move = between.numberOf(0, 2);
        if (w == null || w.state != COMING || w.moves != move || !between.oldestIsSound()) {
            return;
        }
        between.oldestInto(w);
        if (!w.hasAllParts()) {
            return;
        }
        State state = engine.now[here];
        Traveller got = unpacker.into;
        int t = w.number;
        int fault = unpacker.unpack(w.bytes, w.size, 1, engine.programs, state.programs);
        if (fault == 0 && got.number == t && got.moves == move && got.program == w.program) {
            w.becomeWhole(got);
            engine.keep(here);
            engine.send(here, from, WHOLE, t, move);
        } else {
            state.remove(t);
            state.noteGivenUp(t, move);
            engine.keep(here);
            engine.sendNo(here, from, t, move, GIVEN_UP);
        }
    }

    private void wholeComes(int from, int here, Traveller w, int move) {
        if (w == null || w.moves != move) {
            return;
        }
        if (w.isOnItsWay()) {
            w.leave();
            engine.keep(here);
            engine.send(here, from, RELEASE, w.number, move);
        } else if (w.state == GONE) {
            engine.send(here, from, RELEASE, w.number, move);
        }
    }

    private void releaseComes(int from, int here, Traveller w, int t, int move) {
        State state = engine.now[here];
        if (w != null && w.state == HERE_WHOLE && w.moves == move) {
            w.state = ACTING;
            w.goOn(1);
            state.over[t] = move;
            engine.keep(here);
            engine.send(here, from, DONE, t, move);
        } else if (state.over[t] >= move) {
            engine.send(here, from, DONE, t, move);
        }
    }

    private void giveUpComes(int from, int here, Traveller w, int t, int move) {
        State state = engine.now[here];
        boolean ofThatMove = w != null && w.moves == move;
        if (ofThatMove && w.state == HERE_WHOLE) {
            engine.send(here, from, WHOLE, t, move);
        } else if (state.over[t] >= move) {
            engine.send(here, from, DONE, t, move);
        } else {
            if (ofThatMove && w.state == COMING) {
                state.remove(t);
            }
            state.noteGivenUp(t, move);
            engine.keep(here);
            engine.sendNo(here, from, t, move, GIVEN_UP);
        }
    }

    private void callComes(int from, int here, Line between) {
        State state = engine.now[here];
        int t = between.numberOf(0, 1);
        int call = between.numberOf(0, 2);
        if (call < state.answeredCall[t]) {
            return;
        }
        if (call > state.answeredCall[t]) {
            for (int i = 0; i < Engine.MOST_GIVEN; i++) {
                engine.given[i] = between.numberOf(0, 6 + i);
            }
            engine.callThing(here, t, between.numberOf(0, 3), between.numberOf(0, 4), between.numberOf(0, 5));
            state.answeredCall[t] = call;
            state.answerSort[t] = engine.answerSort;
            state.answerNumber[t] = engine.answerNumber;
            engine.keep(here);
        }
        engine.sendAnswer(here, from, t, call);
    }

    /** The tokens of a text; the first one that is none is BAD, and nothing but END stands behind it. */
    private static final class Tokens {
        static final String WORDS = "bool catch class else false far get go here if int length main new null pin print put raise return self this true try twin while ";
        static final int BOOL = 0;
        static final int CATCH = 1;
        static final int CLASS = 2;
        static final int ELSE = 3;
        static final int FALSE = 4;
        static final int FAR = 5;
        static final int GET = 6;
        static final int GO = 7;
        static final int HERE = 8;
        static final int IF = 9;
        static final int INT = 10;
        static final int LENGTH = 11;
        static final int MAIN = 12;
        static final int NEW = 13;
        static final int NULL = 14;
        static final int PIN = 15;
        static final int PRINT = 16;
        static final int PUT = 17;
        static final int RAISE = 18;
        static final int RETURN = 19;
        static final int SELF = 20;
        static final int THIS = 21;
        static final int TRUE = 22;
        static final int TRY = 23;
        static final int TWIN = 24;
        static final int WHILE = 25;
        static final int WORD_COUNT = 26;

        static final int OPEN = 30;
        static final int CLOSE = 31;
        static final int LEFT = 32;
        static final int RIGHT = 33;
        static final int ROW_OPEN = 34;
        static final int ROW_CLOSE = 35;
        static final int SEMICOLON = 36;
        static final int COMMA = 37;
        static final int DOT = 38;
        static final int SET = 39;
        static final int NOT = 40;
        /** From PLUS to UNLIKE they stand as the instruction SIGN numbers them. */
        static final int PLUS = 41;
        static final int MINUS = 42;
        static final int TIMES = 43;
        static final int OVER = 44;
        static final int REST = 45;
        static final int BELOW = 46;
        static final int AT_MOST = 47;
        static final int ABOVE = 48;
        static final int AT_LEAST = 49;
        static final int ALIKE = 50;
        static final int UNLIKE = 51;
        static final int AND = 52;
        static final int OR = 53;

        static final int NAME = 60;
        static final int NUMBER = 61;
        static final int END = 62;
        static final int BAD = 63;

        static final int LONGEST_NAME = 12;

        final int[] kind = new int[TAPE + 2];
        /** Of a NAME its number among the names, of a NUMBER itself. */
        final int[] value = new int[TAPE + 2];
        final int[] row = new int[TAPE + 2];
        int count = 0;

        private final byte[] letters = new byte[TAPE + 256];
        private final int[] nameEnd = new int[TAPE / 2 + 64];
        private final int[] nameHash = new int[TAPE / 2 + 64];
        private int names = 0;

        private byte[] text = letters;
        private int length = 0;
        private int spot = 0;
        private int rowNow = 1;

        Tokens() {
            int end = 0;
            int hash = 0;
            for (int i = 0; i < WORDS.length(); i++) {
                char c = WORDS.charAt(i);
                if (c == ' ') {
                    nameEnd[names] = end;
                    nameHash[names] = hash;
                    names++;
                    hash = 0;
                } else {
                    letters[end] = (byte) c;
                    end++;
                    hash = hash * 31 + c;
                }
            }
        }

        void cut(byte[] newText, int newLength) {
            text = newText;
            length = newLength;
            spot = 0;
            rowNow = 1;
            count = 0;
            names = WORD_COUNT;
            boolean good = true;
            for (int turn = 0; turn < TAPE && good; turn++) {
                skipBlanks();
                if (spot >= length) {
                    break;
                }
                good = cutOne();
            }
            addToken(END, 0);
        }

        private int byteAt(int i) {
            return i < length ? text[i] & 255 : NONE;
        }

        private void skipBlanks() {
            boolean comment = false;
            for (; spot < length; spot++) {
                int b = byteAt(spot);
                if (b == 10) {
                    rowNow++;
                    comment = false;
                } else if (!comment && b == '/' && byteAt(spot + 1) == '/') {
                    comment = true;
                } else if (!comment && b != 9 && b != 32) {
                    return;
                }
            }
        }

        private void addToken(int sort, int number) {
            kind[count] = sort;
            value[count] = number;
            row[count] = rowNow;
            count++;
        }

        private boolean cutOne() {
            int b = byteAt(spot);
            if (isLetter(b)) {
                return cutName();
            }
            if (isDigit(b)) {
                return cutNumber();
            }
            int sort = signAt(spot);
            addToken(sort, 0);
            spot += isWide(sort) ? 2 : 1;
            return sort != BAD;
        }

        private boolean cutName() {
            int end = wordEnd();
            if (end - spot > LONGEST_NAME) {
                addToken(BAD, 0);
                return false;
            }
            int name = nameNumber(end);
            addToken(name < WORD_COUNT ? name : NAME, name);
            spot = end;
            return true;
        }

        private boolean cutNumber() {
            int end = wordEnd();
            long number = 0;
            boolean good = true;
            for (int i = spot; i < end && good; i++) {
                int b = byteAt(i);
                number = number * 10 + b - '0';
                good = isDigit(b) && number <= GREATEST;
            }
            addToken(good ? NUMBER : BAD, good ? (int) number : 0);
            spot = end;
            return good;
        }

        private int wordEnd() {
            int end = spot;
            while (end < length && (isLetter(byteAt(end)) || isDigit(byteAt(end)) || byteAt(end) == '_')) {
                end++;
            }
            return end;
        }

        private int nameNumber(int end) {
            int hash = 0;
            for (int i = spot; i < end; i++) {
                hash = hash * 31 + byteAt(i);
            }
            for (int i = 0; i < names; i++) {
                if (nameHash[i] == hash && isNamed(i, end)) {
                    return i;
                }
            }
            int from = nameEnd[names - 1];
            for (int i = spot; i < end; i++) {
                letters[from + i - spot] = text[i];
            }
            nameEnd[names] = from + end - spot;
            nameHash[names] = hash;
            names++;
            return names - 1;
        }

        private boolean isNamed(int name, int end) {
            int from = name == 0 ? 0 : nameEnd[name - 1];
            if (nameEnd[name] - from != end - spot) {
                return false;
            }
            for (int i = spot; i < end; i++) {
                if (letters[from + i - spot] != text[i]) {
                    return false;
                }
            }
            return true;
        }

        private static boolean isLetter(int b) {
            return b >= 'a' && b <= 'z' || b >= 'A' && b <= 'Z';
        }

        private static boolean isDigit(int b) {
            return b >= '0' && b <= '9';
        }

        private static boolean isWide(int sort) {
            return sort == ALIKE || sort == UNLIKE || sort == AT_MOST || sort == AT_LEAST || sort == AND || sort == OR;
        }

        private int signAt(int i) {
            int next = byteAt(i + 1);
            switch (byteAt(i)) {
                case '{': return OPEN;
                case '}': return CLOSE;
                case '(': return LEFT;
                case ')': return RIGHT;
                case '[': return ROW_OPEN;
                case ']': return ROW_CLOSE;
                case ';': return SEMICOLON;
                case ',': return COMMA;
                case '.': return DOT;
                case '+': return PLUS;
                case '-': return MINUS;
                case '*': return TIMES;
                case '/': return OVER;
                case '%': return REST;
                case '=': return next == '=' ? ALIKE : SET;
                case '!': return next == '=' ? UNLIKE : NOT;
                case '<': return next == '=' ? AT_MOST : BELOW;
                case '>': return next == '=' ? AT_LEAST : ABOVE;
                case '&': return next == '&' ? AND : BAD;
                case '|': return next == '|' ? OR : BAD;
                default: return BAD;
            }
        }
    }

    /** The NAMES that a text tells: classes, their members, and the parameters and LOCALS that are in reach. */
    private static final class Scope {
        /** More than a tape of 4,000 bytes can tell of any of them. */
        static final int MOST = 1024;
        static final int PARAMETERS = 4;

        int classes = 0;
        private final int[] className = new int[MOST];
        final int[] classFields = new int[MOST];

        int members = 0;
        private final int[] memberClass = new int[MOST];
        private final int[] memberName = new int[MOST];
        private final int[] memberType = new int[MOST];
        private final int[] memberNumber = new int[MOST];
        private final boolean[] isMethod = new boolean[MOST];

        int methods = 0;
        final int[] methodType = new int[MOST];
        final int[] parameters = new int[MOST];
        private final int[] parameterType = new int[MOST * PARAMETERS];

        int reach = 0;
        private final int[] localName = new int[MOST];
        private final int[] localType = new int[MOST];
        private final int[] localSlot = new int[MOST];

        void clear() {
            classes = 0;
            members = 0;
            methods = 0;
            reach = 0;
        }

        void addClass(int name) {
            if (classes < MOST) {
                className[classes] = name;
                classFields[classes] = 0;
                classes++;
            }
        }

        void addField(int owner, int name, int type) {
            addMember(owner, name, type, false, classFields[owner]);
            classFields[owner]++;
        }

        void addMethod(int owner, int name, int type) {
            addMember(owner, name, type, true, methods);
            if (methods < MOST) {
                methodType[methods] = type;
                parameters[methods] = 0;
                methods++;
            }
        }

        private void addMember(int owner, int name, int type, boolean called, int number) {
            if (members < MOST) {
                memberClass[members] = owner;
                memberName[members] = name;
                memberType[members] = type;
                memberNumber[members] = number;
                isMethod[members] = called;
                members++;
            }
        }

        void addParameter(int method, int type) {
            if (parameters[method] < PARAMETERS) {
                parameterType[method * PARAMETERS + parameters[method]] = type;
                parameters[method]++;
            }
        }

        void addLocal(int name, int type, int slot) {
            if (reach < MOST) {
                localName[reach] = name;
                localType[reach] = type;
                localSlot[reach] = slot;
                reach++;
            }
        }

        /** Types are told by NAMES of classes that may stand later: only now each has its class. */
        void settle() {
            for (int i = 0; i < members; i++) {
                memberType[i] = resolve(memberType[i]);
            }
            for (int i = 0; i < methods; i++) {
                methodType[i] = resolve(methodType[i]);
                for (int k = 0; k < parameters[i]; k++) {
                    parameterType[i * PARAMETERS + k] = resolve(parameterType[i * PARAMETERS + k]);
                }
            }
        }

        int resolve(int type) {
            if (type < Program.CLASS_TYPES) {
                return type;
            }
            int found = classNamed(Program.classOf(type));
            return found < 0 ? Program.UNKNOWN : Program.typeOfClass(found, Program.isThing(type));
        }

        int classNamed(int name) {
            for (int i = 0; i < classes; i++) {
                if (className[i] == name) {
                    return i;
                }
            }
            return NONE;
        }

        boolean isTold(int member) {
            for (int i = 0; i < member && i < members && member < members; i++) {
                if (memberName[i] == memberName[member] && memberClass[i] == memberClass[member]) {
                    return true;
                }
            }
            return false;
        }

        int memberNamed(int owner, int name, boolean called) {
            for (int i = 0; i < members; i++) {
                if (memberName[i] == name && memberClass[i] == owner && isMethod[i] == called) {
                    return i;
                }
            }
            return NONE;
        }

        int numberOf(int member) {
            return memberNumber[member];
        }

        int typeOf(int member) {
            return memberType[member];
        }

        int parameterType(int method, int k) {
            return parameterType[method * PARAMETERS + k];
        }

        int localNamed(int name) {
            for (int i = reach - 1; i >= 0; i--) {
                if (localName[i] == name) {
                    return i;
                }
            }
            return NONE;
        }

        int slotOf(int local) {
            return localSlot[local];
        }

        int typeOfLocal(int local) {
            return localType[local];
        }

        /** What a THING may be asked from afar: numbers go, numbers come. */
        boolean isPlain(int method) {
            boolean plain = isNumber(methodType[method]);
            for (int k = 0; k < parameters[method]; k++) {
                plain = plain && isNumber(parameterType(method, k));
            }
            return plain;
        }

        private static boolean isNumber(int type) {
            return type == Program.INT || type == Program.BOOL || type == Program.UNKNOWN;
        }

        boolean isTooMuch() {
            boolean tooMuch = classes > Program.CLASSES || methods + 1 > Program.METHODS;
            for (int i = 0; i < classes; i++) {
                tooMuch = tooMuch || classFields[i] > Program.FIELDS;
            }
            return tooMuch;
        }

        void tellFields(Program draft) {
            draft.classCount = classes;
            for (int i = 0; i < classes; i++) {
                draft.classFields[i] = classFields[i];
            }
            for (int i = 0; i < members; i++) {
                if (!isMethod[i]) {
                    draft.fieldType[memberClass[i] * Program.FIELDS + memberNumber[i]] = memberType[i];
                }
            }
        }
    }

    /**
     * The code of a text. Its TYPES are ints: those below, and from CLASS_TYPES on two for each class, of its OBJECTS
     * and of its THINGS. What lies on the stack ahead of an instruction is a chain of nodes, the uppermost first:
     * node 0 is the empty stack, node 1 the number that a HANDLER finds, node 2 + k what instruction k puts there.
     */
    private static final class Program {
        static final int MOST = 1200;
        static final int CLASSES = 12;
        static final int FIELDS = 12;
        static final int METHODS = 40;
        static final int LOCALS = 30;
        /** Slots of each method in slotType: LOCALS, this, and one to spare. */
        static final int SLOTS = 32;

        static final int NOTHING = -2;
        static final int UNKNOWN = -1;
        static final int INT = 0;
        static final int BOOL = 1;
        static final int ROW = 2;
        static final int NULL_TYPE = 3;
        static final int CLASS_TYPES = 4;

        static final int NUMBER = 0;
        static final int NULL = 1;
        static final int LOAD = 2;
        static final int STORE = 3;
        static final int FIELD = 4;
        static final int SET_FIELD = 5;
        static final int ELEMENT = 6;
        static final int SET_ELEMENT = 7;
        static final int LENGTH = 8;
        static final int NEW = 9;
        static final int NEW_ROW = 10;
        static final int ENTER = 11;
        static final int FAR = 12;
        static final int SIGN = 13;
        static final int MINUS = 14;
        static final int NOT = 15;
        static final int JUMP = 16;
        static final int UNLESS = 17;
        static final int RETURN = 18;
        static final int PRINT = 19;
        static final int PUT = 20;
        static final int GET = 21;
        static final int RAISE = 22;
        static final int GO = 23;
        static final int PIN = 24;
        static final int HERE = 25;
        static final int SELF = 26;
        static final int TWIN = 27;
        static final int DROP = 28;
        static final int SAME = 29;

        int count = 0;
        final int[] operation;
        final int[] first;
        final int[] second;
        final int[] handler;
        /** The node of what is on the stack ahead of each; NONE, if no way leads there. */
        final int[] ahead;
        private final int[] nodeType;
        private final int[] nodeBelow;
        private final int[] nodeHeight;
        int stack = 0;

        int classCount = 0;
        final int[] classFields;
        final int[] fieldType;
        int methodCount = 0;
        final int[] methodClass;
        final int[] methodParameters;
        final int[] methodSlots;
        final int[] methodFirst;
        final int[] methodType;
        final int[] slotType;
        int sum = 0;

        /** A draft, with room for all that a program may have. */
        Program() {
            operation = new int[MOST];
            first = new int[MOST];
            second = new int[MOST];
            handler = new int[MOST];
            ahead = new int[MOST];
            nodeType = new int[MOST + 2];
            nodeBelow = new int[MOST + 2];
            nodeHeight = new int[MOST + 2];
            nodeHeight[1] = 1;
            classFields = new int[CLASSES];
            fieldType = new int[CLASSES * FIELDS];
            methodClass = new int[METHODS];
            methodParameters = new int[METHODS];
            methodSlots = new int[METHODS];
            methodFirst = new int[METHODS];
            methodType = new int[METHODS];
            slotType = new int[METHODS * SLOTS];
        }

        /** What a draft has, in rows that are no longer than need be. */
        Program(Program draft, int newSum) {
            count = draft.count;
            operation = Arrays.copyOf(draft.operation, count);
            first = Arrays.copyOf(draft.first, count);
            second = Arrays.copyOf(draft.second, count);
            handler = Arrays.copyOf(draft.handler, count);
            ahead = Arrays.copyOf(draft.ahead, count);
            nodeType = Arrays.copyOf(draft.nodeType, count + 2);
            nodeBelow = Arrays.copyOf(draft.nodeBelow, count + 2);
            nodeHeight = Arrays.copyOf(draft.nodeHeight, count + 2);
            classCount = draft.classCount;
            classFields = Arrays.copyOf(draft.classFields, classCount);
            fieldType = Arrays.copyOf(draft.fieldType, classCount * FIELDS);
            methodCount = draft.methodCount;
            methodClass = Arrays.copyOf(draft.methodClass, methodCount);
            methodParameters = Arrays.copyOf(draft.methodParameters, methodCount);
            methodSlots = Arrays.copyOf(draft.methodSlots, methodCount);
            methodFirst = Arrays.copyOf(draft.methodFirst, methodCount);
            methodType = Arrays.copyOf(draft.methodType, methodCount);
            slotType = Arrays.copyOf(draft.slotType, methodCount * SLOTS);
            sum = newSum;
        }

        static int typeOfClass(int number, boolean thing) {
            return CLASS_TYPES + 2 * number + (thing ? 1 : 0);
        }

        static boolean isThing(int type) {
            return type >= CLASS_TYPES && (type & 1) == 1;
        }

        static boolean isObject(int type) {
            return type >= CLASS_TYPES && (type & 1) == 0;
        }

        static int classOf(int type) {
            return type - CLASS_TYPES >> 1;
        }

        static boolean takesNull(int type) {
            return type == ROW || type >= CLASS_TYPES;
        }

        static int kindOf(int type) {
            if (type == INT || type == BOOL) {
                return 0;
            }
            return type >= CLASS_TYPES && (type & 1) == 1 ? 2 : 1;
        }

        void clear() {
            count = 0;
            stack = 0;
            methodCount = 0;
        }

        /** Counts on beyond the limit, so that its fault can be told once all is read. */
        int emit(int what, int a, int b, int taken, int put) {
            int at = count;
            count++;
            if (at >= MOST) {
                return at;
            }
            operation[at] = what;
            first[at] = a;
            second[at] = b;
            handler[at] = NONE;
            ahead[at] = stack;
            for (int i = 0; i < taken; i++) {
                stack = nodeBelow[stack];
            }
            if (put != NOTHING) {
                int node = at + 2;
                nodeType[node] = put;
                nodeBelow[node] = stack;
                nodeHeight[node] = nodeHeight[stack] + 1;
                stack = node;
            }
            return at;
        }

        void undo() {
            if (count > 0) {
                count--;
                stack = count < MOST ? ahead[count] : stack;
            }
        }

        void aim(int at, int a) {
            if (at >= 0 && at < MOST) {
                first[at] = a;
            }
        }

        /** As it was ahead of an instruction, without the one that this takes. */
        void stackBelow(int at) {
            if (at < MOST) {
                stack = nodeBelow[ahead[at]];
            }
        }

        void handle(int from, int to, int place) {
            for (int i = from; i < to && i < MOST; i++) {
                if (handler[i] == NONE) {
                    handler[i] = place;
                }
            }
            stack = 1;
        }

        void beginMethod(int owner, int type) {
            stack = 0;
            if (methodCount < METHODS) {
                methodClass[methodCount] = owner;
                methodType[methodCount] = type;
                methodParameters[methodCount] = 0;
                methodSlots[methodCount] = 0;
                methodFirst[methodCount] = count;
            }
        }

        void addSlot(int slot, int type) {
            if (methodCount < METHODS && slot < SLOTS) {
                slotType[methodCount * SLOTS + slot] = type;
            }
        }

        void endMethod(int parameters, int slots, int type) {
            if (kindOf(type) == 0) {
                emit(NUMBER, 0, 0, 0, type);
            } else {
                emit(NULL, kindOf(type), 0, 0, NULL_TYPE);
            }
            emit(RETURN, 0, 0, 1, NOTHING);
            if (methodCount < METHODS) {
                methodParameters[methodCount] = parameters;
                methodSlots[methodCount] = slots;
            }
            methodCount++;
        }

        /** Takes away what lies ahead of instructions that no way leads to. */
        void followWays() {
            int[] open = new int[count + 1];
            boolean[] met = new boolean[count];
            int waiting = 0;
            for (int m = 0; m < methodCount; m++) {
                waiting = meet(open, waiting, met, methodFirst[m]);
            }
            for (int turn = 0; turn < MOST && waiting > 0; turn++) {
                waiting--;
                int at = open[waiting];
                int what = operation[at];
                waiting = meet(open, waiting, met, handler[at]);
                if (what == JUMP || what == UNLESS) {
                    waiting = meet(open, waiting, met, first[at]);
                }
                if (what != JUMP && what != RETURN && what != RAISE) {
                    waiting = meet(open, waiting, met, at + 1);
                }
            }
            for (int i = 0; i < count; i++) {
                ahead[i] = met[i] ? ahead[i] : NONE;
            }
        }

        private static int meet(int[] open, int waiting, boolean[] met, int place) {
            if (place < 0 || place >= met.length || met[place]) {
                return waiting;
            }
            met[place] = true;
            open[waiting] = place;
            return waiting + 1;
        }

        int heightAt(int place) {
            return ahead[place] < 0 ? NONE : nodeHeight[ahead[place]];
        }

        /** The TYPE of the k-th from below of what lies on the stack ahead of a place. */
        int typeAt(int place, int k) {
            int node = ahead[place] < 0 ? 0 : ahead[place];
            for (int i = 0; i < MOST && nodeHeight[node] > k + 1; i++) {
                node = nodeBelow[node];
            }
            return nodeType[node];
        }

        int endOf(int method) {
            return method + 1 < methodCount ? methodFirst[method + 1] : count;
        }
    }

    /**
     * Reads a text twice, by the same methods: the first time for the faults of the text and the NAMES of classes and
     * members, which may be used ahead of where they stand; the second time for the faults of the rules and the code.
     * A fault of the text puts the spot at the END, where nothing can stand any more, so that all that is open ends.
     */
    private static final class Reader {
        static final int DEEPEST = 20;

        static final int NO_TOKEN = 1;
        static final int CANT_STAND = 2;
        static final int TOO_DEEP = 3;
        static final int TWICE = 4;
        static final int MEANS_NOTHING = 5;
        static final int MISFIT = 6;
        static final int BAD_CALL = 7;
        static final int THIS_IN_MAIN = 8;
        static final int TOO_MUCH = 9;

        static final int OR_LEVEL = 0;
        static final int AND_LEVEL = 1;
        static final int ALIKE_LEVEL = 2;
        static final int ORDER_LEVEL = 3;
        static final int SUM_LEVEL = 4;
        static final int PRODUCT_LEVEL = 5;

        static final int NO_FORM = 0;
        static final int LOCAL_FORM = 1;
        static final int FIELD_FORM = 2;
        static final int ELEMENT_FORM = 3;

        private final Tokens tokens = new Tokens();
        private final Scope scope = new Scope();
        private final Program draft = new Program();
        private int spot = 0;
        private int depth = 0;
        private int textFault = 0;
        private int textToken = 0;
        private int ruleFault = 0;
        private int ruleToken = 0;
        private boolean collecting = false;
        private int classNow = NONE;
        private int thisType = Program.UNKNOWN;
        private int nextMember = 0;
        private int slots = 0;
        private int mostTold = 0;
        private int answerType = 0;
        /** What may stand ahead of =, as the latest PRIMARY was, and its slot or field. */
        private int form = NO_FORM;
        private int formNumber = 0;

        void cut(byte[] tape, int length) {
            tokens.cut(tape, length);
            scope.clear();
            textFault = 0;
        }

        boolean hasTextFault() {
            return textFault != 0;
        }

        /** Between the two times. */
        void settle() {
            scope.settle();
        }

        /** 0, or the fault with its line. */
        int faultFound(boolean oneMore) {
            if (textFault != 0) {
                return textFault + 16 * tokens.row[textToken];
            }
            if (ruleFault != 0) {
                return ruleFault + 16 * tokens.row[ruleToken];
            }
            boolean tooMuch = !oneMore || scope.isTooMuch() || mostTold > Program.LOCALS || draft.count > Program.MOST;
            return tooMuch ? TOO_MUCH : 0;
        }

        Program newProgram(int sum) {
            scope.tellFields(draft);
            draft.followWays();
            return new Program(draft, sum);
        }

        // -- tokens and faults

        private int kind() {
            return tokens.kind[spot];
        }

        private int kindBehind() {
            return spot + 1 < tokens.count ? tokens.kind[spot + 1] : Tokens.END;
        }

        private boolean take(int wanted) {
            if (tokens.kind[spot] != wanted) {
                return false;
            }
            spot++;
            return true;
        }

        private void need(int wanted) {
            if (!take(wanted)) {
                fail(CANT_STAND);
            }
        }

        /** What is no token can't stand anywhere, either: of the two faults that is the lesser one. */
        private void fail(int fault) {
            if (textFault == 0) {
                textFault = tokens.kind[spot] == Tokens.BAD ? NO_TOKEN : fault;
                textToken = spot;
            }
            spot = tokens.count - 1;
        }

        private boolean open() {
            if (depth >= DEEPEST) {
                fail(TOO_DEEP);
                return false;
            }
            depth++;
            return true;
        }

        private void rule(int fault, int token) {
            if (ruleFault == 0 || token < ruleToken || token == ruleToken && fault < ruleFault) {
                ruleFault = fault;
                ruleToken = token;
            }
        }

        private void fit(int got, int wanted, int token) {
            if (got == Program.NULL_TYPE && Program.takesNull(wanted)) {
                draft.aim(draft.count - 1, Program.kindOf(wanted));
            } else if (got != wanted && got != Program.UNKNOWN && wanted != Program.UNKNOWN) {
                rule(MISFIT, token);
            }
        }

        private static boolean isOf(int type, int wanted) {
            return type == wanted || type == Program.UNKNOWN;
        }

        // -- classes and methods

        void readAll(boolean firstTime) {
            collecting = firstTime;
            spot = 0;
            depth = 0;
            ruleFault = 0;
            nextMember = 0;
            mostTold = 0;
            draft.clear();
            for (int c = 0; c < TAPE && take(Tokens.CLASS); c++) {
                beginClass(c);
                for (int turn = 0; turn < TAPE && kind() != Tokens.CLOSE && kind() != Tokens.END; turn++) {
                    readMember();
                }
                need(Tokens.CLOSE);
            }
            need(Tokens.MAIN);
            classNow = NONE;
            thisType = Program.UNKNOWN;
            beginBody(Program.INT);
            readBlock();
            endBody(0);
            if (kind() != Tokens.END) {
                fail(CANT_STAND);
            }
        }

        private void beginClass(int number) {
            int name = spot;
            need(Tokens.NAME);
            classNow = number;
            thisType = Program.typeOfClass(number, false);
            if (collecting) {
                scope.addClass(tokens.value[name]);
            } else if (scope.classNamed(tokens.value[name]) != number) {
                rule(TWICE, name);
            }
            need(Tokens.OPEN);
        }

        private void readMember() {
            int type = readType();
            int name = spot;
            need(Tokens.NAME);
            if (!collecting && scope.isTold(nextMember)) {
                rule(TWICE, name);
            }
            nextMember++;
            if (take(Tokens.LEFT)) {
                beginMethod(name, type);
                int parameters = readParameters();
                readBlock();
                endBody(parameters);
                return;
            }
            need(Tokens.SEMICOLON);
            if (collecting) {
                scope.addField(classNow, tokens.value[name], type);
            }
        }

        private void beginMethod(int name, int type) {
            if (collecting) {
                scope.addMethod(classNow, tokens.value[name], type);
            }
            beginBody(scope.resolve(type));
            tellSlot(thisType);
        }

        private int readParameters() {
            if (take(Tokens.RIGHT)) {
                return 0;
            }
            int told = 0;
            for (int k = 0; k < Scope.PARAMETERS; k++) {
                readParameter(draft.methodCount);
                told++;
                if (told == Scope.PARAMETERS || !take(Tokens.COMMA)) {
                    break;
                }
            }
            need(Tokens.RIGHT);
            return told;
        }

        private void readParameter(int method) {
            int type = readType();
            int name = spot;
            need(Tokens.NAME);
            if (collecting) {
                scope.addParameter(method, type);
            }
            tellLocal(name, scope.resolve(type));
        }

        private void beginBody(int type) {
            answerType = type;
            slots = 0;
            scope.reach = 0;
            draft.beginMethod(classNow, type);
        }

        private void endBody(int parameters) {
            mostTold = Math.max(mostTold, classNow == NONE ? slots : slots - 1);
            draft.endMethod(parameters, slots, answerType);
        }

        private int tellSlot(int type) {
            draft.addSlot(slots, type);
            slots++;
            return slots - 1;
        }

        private int tellLocal(int name, int type) {
            if (scope.localNamed(tokens.value[name]) >= 0) {
                rule(TWICE, name);
            }
            int slot = tellSlot(type);
            scope.addLocal(tokens.value[name], type, slot);
            return slot;
        }

        /** With the number of a NAME where a TYPE has that of a class: Scope.resolve() finds the class. */
        private int readType() {
            if (take(Tokens.BOOL)) {
                return Program.BOOL;
            }
            if (take(Tokens.INT)) {
                if (!take(Tokens.ROW_OPEN)) {
                    return Program.INT;
                }
                need(Tokens.ROW_CLOSE);
                return Program.ROW;
            }
            boolean thing = take(Tokens.FAR);
            int name = spot;
            need(Tokens.NAME);
            if (scope.classNamed(tokens.value[name]) < 0) {
                rule(MEANS_NOTHING, name);
            }
            return Program.typeOfClass(tokens.value[name], thing);
        }

        // -- statements

        private void readBlock() {
            if (kind() == Tokens.OPEN) {
                readStatement(false);
            } else {
                fail(CANT_STAND);
            }
        }

        private void readStatement(boolean localsToo) {
            int sort = kind();
            if (!beginsStatement(sort, localsToo)) {
                fail(CANT_STAND);
                return;
            }
            if (!open()) {
                return;
            }
            switch (sort) {
                case Tokens.OPEN:
                    readStatements();
                    break;
                case Tokens.IF:
                    readIf();
                    break;
                case Tokens.WHILE:
                    readWhile();
                    break;
                case Tokens.TRY:
                    readTry();
                    break;
                case Tokens.RETURN:
                    readOne(Program.RETURN, answerType);
                    break;
                case Tokens.PRINT:
                    readOne(Program.PRINT, Program.INT);
                    break;
                case Tokens.RAISE:
                    readOne(Program.RAISE, Program.INT);
                    break;
                case Tokens.PUT:
                    readPut();
                    break;
                default:
                    if (localsToo && (sort != Tokens.NAME ? beginsLocal(sort) : kindBehind() == Tokens.NAME)) {
                        readLocal();
                    } else {
                        readPlain();
                    }
                    break;
            }
            depth--;
        }

        private static boolean beginsStatement(int sort, boolean localsToo) {
            switch (sort) {
                case Tokens.OPEN:
                case Tokens.IF:
                case Tokens.WHILE:
                case Tokens.TRY:
                case Tokens.RETURN:
                case Tokens.PRINT:
                case Tokens.RAISE:
                case Tokens.PUT:
                    return true;
                default:
                    return beginsExpression(sort) || localsToo && beginsLocal(sort);
            }
        }

        private static boolean beginsLocal(int sort) {
            return sort == Tokens.INT || sort == Tokens.BOOL || sort == Tokens.FAR;
        }

        private static boolean beginsExpression(int sort) {
            switch (sort) {
                case Tokens.NUMBER:
                case Tokens.TRUE:
                case Tokens.FALSE:
                case Tokens.NULL:
                case Tokens.THIS:
                case Tokens.HERE:
                case Tokens.SELF:
                case Tokens.TWIN:
                case Tokens.NAME:
                case Tokens.NEW:
                case Tokens.LEFT:
                    return true;
                default:
                    return isUnitSign(sort);
            }
        }

        private static boolean isUnitSign(int sort) {
            return sort == Tokens.MINUS || sort == Tokens.NOT || sort == Tokens.GO || sort == Tokens.GET
                    || sort == Tokens.PIN;
        }

        private void readStatements() {
            int outer = scope.reach;
            spot++;
            for (int turn = 0; turn < TAPE && kind() != Tokens.CLOSE && kind() != Tokens.END; turn++) {
                readStatement(true);
            }
            need(Tokens.CLOSE);
            scope.reach = outer;
        }

        private void readLocal() {
            int type = scope.resolve(readType());
            int name = spot;
            need(Tokens.NAME);
            int sign = spot;
            need(Tokens.SET);
            int got = readExpression();
            fit(got, type, sign);
            need(Tokens.SEMICOLON);
            draft.emit(Program.STORE, tellLocal(name, type), 0, 1, Program.NOTHING);
        }

        private int readCondition() {
            int word = spot;
            spot++;
            need(Tokens.LEFT);
            int got = readExpression();
            need(Tokens.RIGHT);
            fit(got, Program.BOOL, word);
            return draft.emit(Program.UNLESS, 0, 0, 1, Program.NOTHING);
        }

        private void readIf() {
            int unless = readCondition();
            readStatement(false);
            if (take(Tokens.ELSE)) {
                int jump = draft.emit(Program.JUMP, 0, 0, 0, Program.NOTHING);
                draft.aim(unless, draft.count);
                readStatement(false);
                draft.aim(jump, draft.count);
            } else {
                draft.aim(unless, draft.count);
            }
        }

        private void readWhile() {
            int top = draft.count;
            int unless = readCondition();
            readStatement(false);
            draft.emit(Program.JUMP, top, 0, 0, Program.NOTHING);
            draft.aim(unless, draft.count);
        }

        private void readTry() {
            spot++;
            int from = draft.count;
            readBlock();
            int jump = draft.emit(Program.JUMP, 0, 0, 0, Program.NOTHING);
            draft.handle(from, jump, draft.count);
            need(Tokens.CATCH);
            need(Tokens.LEFT);
            int outer = scope.reach;
            int name = spot;
            need(Tokens.NAME);
            draft.emit(Program.STORE, tellLocal(name, Program.INT), 0, 1, Program.NOTHING);
            need(Tokens.RIGHT);
            readBlock();
            scope.reach = outer;
            draft.aim(jump, draft.count);
        }

        private void readOne(int operation, int wanted) {
            int word = spot;
            spot++;
            int got = readExpression();
            fit(got, wanted, word);
            need(Tokens.SEMICOLON);
            draft.emit(operation, 0, 0, 1, Program.NOTHING);
        }

        private void readPut() {
            int word = spot;
            spot++;
            int key = readExpression();
            fit(key, Program.INT, word);
            need(Tokens.COMMA);
            int number = readExpression();
            fit(number, Program.INT, word);
            need(Tokens.SEMICOLON);
            draft.emit(Program.PUT, 0, 0, 2, Program.NOTHING);
        }

        private void readPlain() {
            int type = readExpression();
            if (kind() != Tokens.SET) {
                need(Tokens.SEMICOLON);
                draft.emit(Program.DROP, 0, 0, 1, Program.NOTHING);
                return;
            }
            int ahead = form;
            int number = formNumber;
            int sign = spot;
            if (ahead == NO_FORM) {
                fail(CANT_STAND);
                return;
            }
            draft.undo();
            spot++;
            int got = readExpression();
            fit(got, type, sign);
            need(Tokens.SEMICOLON);
            if (ahead == LOCAL_FORM) {
                draft.emit(Program.STORE, number, 0, 1, Program.NOTHING);
            } else if (ahead == FIELD_FORM) {
                draft.emit(Program.SET_FIELD, number, 0, 2, Program.NOTHING);
            } else {
                draft.emit(Program.SET_ELEMENT, 0, 0, 3, Program.NOTHING);
            }
        }

        // -- expressions: each answers the TYPE

        private int readExpression() {
            if (!beginsExpression(kind())) {
                fail(CANT_STAND);
                return Program.UNKNOWN;
            }
            if (!open()) {
                return Program.UNKNOWN;
            }
            int type = readLevel(OR_LEVEL);
            depth--;
            return type;
        }

        private static int levelOf(int sort) {
            switch (sort) {
                case Tokens.OR: return OR_LEVEL;
                case Tokens.AND: return AND_LEVEL;
                case Tokens.ALIKE:
                case Tokens.UNLIKE: return ALIKE_LEVEL;
                case Tokens.BELOW:
                case Tokens.AT_MOST:
                case Tokens.ABOVE:
                case Tokens.AT_LEAST: return ORDER_LEVEL;
                case Tokens.PLUS:
                case Tokens.MINUS: return SUM_LEVEL;
                case Tokens.TIMES:
                case Tokens.OVER:
                case Tokens.REST: return PRODUCT_LEVEL;
                default: return NONE;
            }
        }

        /** Units joined by signs that bind at least so much. */
        private int readLevel(int least) {
            int type = readUnit();
            int most = PRODUCT_LEVEL;
            for (int turn = 0; turn < TAPE; turn++) {
                int level = levelOf(kind());
                if (level < least || level > most) {
                    break;
                }
                int sign = spot;
                spot++;
                int mark = beginRight(level);
                int right = readLevel(level + 1);
                if (level == ALIKE_LEVEL) {
                    joinAlike(sign, type, right, mark);
                } else {
                    join(sign, type, right, mark);
                }
                type = level < SUM_LEVEL ? Program.BOOL : Program.INT;
                form = NO_FORM;
                // these two stand once: behind them only signs that bind less
                most = level == ALIKE_LEVEL || level == ORDER_LEVEL ? level - 1 : level;
            }
            return type;
        }

        /** The place that is aimed once the right side is known, or the last one of the left side. */
        private int beginRight(int level) {
            if (level > AND_LEVEL) {
                return draft.count - 1;
            }
            int unless = draft.emit(Program.UNLESS, 0, 0, 1, Program.NOTHING);
            if (level == AND_LEVEL) {
                return unless;
            }
            draft.emit(Program.NUMBER, 1, 0, 0, Program.BOOL);
            int jump = draft.emit(Program.JUMP, 0, 0, 0, Program.NOTHING);
            draft.aim(unless, draft.count);
            draft.stackBelow(unless);
            return jump;
        }

        private void join(int sign, int left, int right, int mark) {
            int sort = tokens.kind[sign];
            int level = levelOf(sort);
            int wanted = level <= AND_LEVEL ? Program.BOOL : Program.INT;
            if (!isOf(left, wanted) || !isOf(right, wanted)) {
                rule(MISFIT, sign);
            }
            if (level == OR_LEVEL) {
                draft.aim(mark, draft.count);
            } else if (level == AND_LEVEL) {
                int jump = draft.emit(Program.JUMP, 0, 0, 0, Program.NOTHING);
                draft.aim(mark, draft.count);
                draft.stackBelow(mark);
                draft.emit(Program.NUMBER, 0, 0, 0, Program.BOOL);
                draft.aim(jump, draft.count);
            } else {
                int type = level == ORDER_LEVEL ? Program.BOOL : Program.INT;
                draft.emit(Program.SIGN, sort - Tokens.PLUS, 0, 2, type);
            }
        }

        private void joinAlike(int sign, int left, int right, int mark) {
            boolean leftNull = left == Program.NULL_TYPE;
            boolean rightNull = right == Program.NULL_TYPE;
            int type = leftNull || left == Program.UNKNOWN ? right : left;
            boolean fits = left == Program.UNKNOWN || right == Program.UNKNOWN
                    || left == right && !leftNull
                    || leftNull && Program.takesNull(right) || rightNull && Program.takesNull(left);
            if (!fits) {
                rule(MISFIT, sign);
            }
            int kind = Program.kindOf(type);
            if (leftNull && kind != 0) {
                draft.aim(mark, kind);
            }
            if (rightNull && kind != 0) {
                draft.aim(draft.count - 1, kind);
            }
            int sort = tokens.kind[sign];
            if (kind == 0) {
                draft.emit(Program.SIGN, sort - Tokens.PLUS, 0, 2, Program.BOOL);
            } else {
                draft.emit(Program.SAME, kind, sort == Tokens.UNLIKE ? 1 : 0, 2, Program.BOOL);
            }
        }

        private int readUnit() {
            int sort = kind();
            int sign = spot;
            if (isUnitSign(sort)) {
                if (!open()) {
                    return Program.UNKNOWN;
                }
                spot++;
                int got = readUnit();
                depth--;
                form = NO_FORM;
                return sort == Tokens.PIN ? pinned(sign, got) : signed(sort, sign, got);
            }
            int type = readPrimary();
            for (int turn = 0; turn < TAPE; turn++) {
                if (kind() == Tokens.DOT) {
                    type = readDot(type);
                } else if (kind() == Tokens.ROW_OPEN) {
                    type = readIndex(type);
                } else {
                    break;
                }
            }
            return type;
        }

        private int signed(int sort, int sign, int got) {
            if (!isOf(got, sort == Tokens.NOT ? Program.BOOL : Program.INT)) {
                rule(MISFIT, sign);
            }
            int operation = sort == Tokens.MINUS ? Program.MINUS
                    : sort == Tokens.NOT ? Program.NOT : sort == Tokens.GO ? Program.GO : Program.GET;
            int type = sort == Tokens.MINUS || sort == Tokens.GET ? Program.INT : Program.BOOL;
            draft.emit(operation, 0, 0, 1, type);
            return type;
        }

        private int pinned(int sign, int got) {
            int type = Program.UNKNOWN;
            if (Program.isObject(got)) {
                type = Program.typeOfClass(Program.classOf(got), true);
            } else if (got != Program.UNKNOWN) {
                rule(MISFIT, sign);
            }
            draft.emit(Program.PIN, 0, 0, 1, type);
            return type;
        }

        private int readPrimary() {
            int first = spot;
            form = NO_FORM;
            switch (kind()) {
                case Tokens.NUMBER: return simple(Program.NUMBER, tokens.value[first], Program.INT);
                case Tokens.TRUE: return simple(Program.NUMBER, 1, Program.BOOL);
                case Tokens.FALSE: return simple(Program.NUMBER, 0, Program.BOOL);
                case Tokens.NULL: return simple(Program.NULL, 1, Program.NULL_TYPE);
                case Tokens.HERE: return simple(Program.HERE, 0, Program.INT);
                case Tokens.SELF: return simple(Program.SELF, 0, Program.INT);
                case Tokens.TWIN: return simple(Program.TWIN, 0, Program.INT);
                case Tokens.THIS:
                    if (classNow == NONE) {
                        rule(THIS_IN_MAIN, first);
                    }
                    return simple(Program.LOAD, 0, thisType);
                case Tokens.NAME: return kindBehind() == Tokens.LEFT ? readOwnCall() : readName();
                case Tokens.NEW: return readNew();
                case Tokens.LEFT:
                    spot++;
                    int type = readExpression();
                    need(Tokens.RIGHT);
                    form = NO_FORM;
                    return type;
                default:
                    fail(CANT_STAND);
                    return Program.UNKNOWN;
            }
        }

        private int simple(int operation, int a, int type) {
            spot++;
            draft.emit(operation, a, 0, 0, type);
            return type;
        }

        /** A field is that of this: what is loaded first is an OBJECT, then, and no slot. */
        private int readName() {
            int name = spot;
            spot++;
            int local = scope.localNamed(tokens.value[name]);
            int field = local >= 0 || classNow == NONE ? NONE : scope.memberNamed(classNow, tokens.value[name], false);
            if (local < 0 && field < 0) {
                rule(MEANS_NOTHING, name);
            }
            form = field < 0 ? LOCAL_FORM : FIELD_FORM;
            int type = local < 0 ? Program.UNKNOWN : scope.typeOfLocal(local);
            formNumber = local < 0 ? 0 : scope.slotOf(local);
            draft.emit(Program.LOAD, formNumber, 0, 0, field < 0 ? type : thisType);
            if (field >= 0) {
                type = scope.typeOf(field);
                formNumber = scope.numberOf(field);
                draft.emit(Program.FIELD, formNumber, 0, 1, type);
            }
            return type;
        }

        private int fieldForm(int field) {
            form = FIELD_FORM;
            formNumber = field < 0 ? 0 : scope.numberOf(field);
            int type = field < 0 ? Program.UNKNOWN : scope.typeOf(field);
            draft.emit(Program.FIELD, formNumber, 0, 1, type);
            return type;
        }

        private int readNew() {
            int word = spot;
            spot++;
            if (take(Tokens.INT)) {
                need(Tokens.ROW_OPEN);
                int got = readExpression();
                need(Tokens.ROW_CLOSE);
                form = NO_FORM;
                fit(got, Program.INT, word);
                draft.emit(Program.NEW_ROW, 0, 0, 1, Program.ROW);
                return Program.ROW;
            }
            int name = spot;
            need(Tokens.NAME);
            int found = scope.classNamed(tokens.value[name]);
            int type = Program.UNKNOWN;
            if (found < 0) {
                rule(MEANS_NOTHING, name);
            } else {
                type = Program.typeOfClass(found, false);
            }
            draft.emit(Program.NEW, found, 0, 0, type);
            return type;
        }

        private int readIndex(int type) {
            int sign = spot;
            spot++;
            int got = readExpression();
            need(Tokens.ROW_CLOSE);
            if (!isOf(type, Program.ROW)) {
                rule(MISFIT, sign);
            }
            fit(got, Program.INT, sign);
            draft.emit(Program.ELEMENT, 0, 0, 2, Program.INT);
            form = ELEMENT_FORM;
            return Program.INT;
        }

        private int readDot(int type) {
            int dot = spot;
            spot++;
            boolean unknown = type == Program.UNKNOWN;
            if (take(Tokens.LENGTH)) {
                if (!isOf(type, Program.ROW)) {
                    rule(MISFIT, dot);
                }
                form = NO_FORM;
                int answer = type == Program.ROW ? Program.INT : Program.UNKNOWN;
                draft.emit(Program.LENGTH, 0, 0, 1, answer);
                return answer;
            }
            int name = spot;
            need(Tokens.NAME);
            boolean called = kind() == Tokens.LEFT;
            int member = NONE;
            if (!unknown && type < Program.CLASS_TYPES) {
                rule(MISFIT, dot);
            } else if (!unknown) {
                member = scope.memberNamed(Program.classOf(type), tokens.value[name], called);
                if (member < 0 || !called && Program.isThing(type)) {
                    rule(MEANS_NOTHING, name);
                    member = NONE;
                }
            }
            return called ? readCall(name, member, Program.isThing(type)) : fieldForm(member);
        }

        private int readOwnCall() {
            int name = spot;
            spot++;
            int member = classNow == NONE ? NONE : scope.memberNamed(classNow, tokens.value[name], true);
            if (member < 0) {
                rule(MEANS_NOTHING, name);
            }
            draft.emit(Program.LOAD, 0, 0, 0, thisType);
            return readCall(name, member, false);
        }

        /** From ( on, of a method that is known or of none; the object is on the stack. */
        private int readCall(int name, int member, boolean far) {
            int method = member < 0 ? NONE : scope.numberOf(member);
            int parameters = method < 0 ? 0 : scope.parameters[method];
            int given = 0;
            spot++;
            if (!take(Tokens.RIGHT)) {
                for (int turn = 0; turn < TAPE; turn++) {
                    int first = spot;
                    int got = readExpression();
                    if (given < parameters) {
                        fit(got, scope.parameterType(method, given), first);
                    }
                    given++;
                    if (!take(Tokens.COMMA)) {
                        break;
                    }
                }
                need(Tokens.RIGHT);
            }
            if (method >= 0 && (given != parameters || far && !scope.isPlain(method))) {
                rule(BAD_CALL, name);
            }
            int type = method < 0 ? Program.UNKNOWN : scope.methodType[method];
            draft.emit(far ? Program.FAR : Program.ENTER, method, given, given + 1, type);
            form = NO_FORM;
            return type;
        }
    }

    /** OBJECTS and ROWS. A reference to the i-th is i + 1, null is 0. The first one of a THING is its OBJECT. */
    private static final class Heap {
        static final int MOST = 40;
        static final int CELLS = 300;
        static final int LONGEST = 100;
        static final int ROW_SORT = -2;

        int program = 0;
        int count = 0;
        /** The class, or ROW_SORT. */
        final int[] sort = new int[MOST];
        /** Where the cells of each begin, and, behind the last one, where its end is. */
        final int[] start = new int[MOST + 1];
        final int[] cells = new int[CELLS];
        /** While another heap takes over: what has become of each. */
        private final int[] moved = new int[MOST];

        void clear() {
            count = 0;
            start[0] = 0;
        }

        int lengthOf(int i) {
            return start[i + 1] - start[i];
        }

        int typeOf(Program code, int i, int k) {
            return sort[i] == ROW_SORT ? Program.INT : code.fieldType[sort[i] * Program.FIELDS + k];
        }

        boolean fits(int length) {
            return count < MOST && start[count] + length <= CELLS;
        }

        int add(int newSort, int length) {
            int from = start[count];
            sort[count] = newSort;
            for (int k = from; k < from + length; k++) {
                cells[k] = 0;
            }
            count++;
            start[count] = from + length;
            return count;
        }

        void copyFrom(Heap other) {
            program = other.program;
            count = other.count;
            System.arraycopy(other.sort, 0, sort, 0, count);
            System.arraycopy(other.start, 0, start, 0, count + 1);
            System.arraycopy(other.cells, 0, cells, 0, start[count]);
        }

        /** Ahead of taking over from this heap. */
        void forgetMoves() {
            Arrays.fill(moved, 0);
        }

        /** The reference here to what is, there, ref: the next number, if it was not taken over yet. */
        int takeOver(Heap from, int ref) {
            if (ref <= 0 || ref > from.count) {
                return 0;
            }
            if (from.moved[ref - 1] == 0) {
                int length = from.lengthOf(ref - 1);
                from.moved[ref - 1] = add(from.sort[ref - 1], length);
                System.arraycopy(from.cells, from.start[ref - 1], cells, start[count - 1], length);
            }
            return from.moved[ref - 1];
        }

        /** Takes over what the fields of those have that were taken over, by their numbers. */
        void takeOverFields(Heap from, Program code) {
            for (int i = 0; i < count && i < MOST; i++) {
                for (int k = 0; sort[i] != ROW_SORT && k < lengthOf(i); k++) {
                    if (Program.kindOf(typeOf(code, i, k)) == 1) {
                        cells[start[i] + k] = takeOver(from, cells[start[i] + k]);
                    }
                }
            }
        }
    }

    /**
     * A traveller at a host, in whatever STATE. The slots and the stack of each frame lie in one row, each frame
     * behind the one beneath it. A THING is held as 1 + 64 * its host + its number, null as 0.
     */
    private static final class Traveller {
        static final int FRAMES = 12;
        static final int LINES_KEPT = 60;
        static final int BYTES = 2000;
        static final int PART_BYTES = 48;

        int number = 0;
        int program = 0;
        int state = ACTING;
        int steps = 0;
        int moves = 0;
        int calls = 0;
        int lines = 0;
        final int[] printed = new int[LINES_KEPT];
        int result = 0;
        /** Where it goes, or comes from. */
        int other = NONE;
        /** How many bytes it has PACKED, while it goes. */
        int size = 0;
        /** Of COMING: a bit for each part that is here. */
        long parts = 0;
        byte[] bytes = null;

        int frames = 0;
        final int[] method = new int[FRAMES];
        final int[] place = new int[FRAMES];
        final int[] base = new int[FRAMES];
        int[] values = new int[32];
        int top = 0;
        Heap heap = new Heap();

        void begin(int newNumber, int newProgram) {
            number = newNumber;
            program = newProgram;
            state = ACTING;
            moves = 0;
            other = NONE;
            size = 0;
            parts = 0;
            emptyOut();
        }

        private void emptyOut() {
            steps = 0;
            calls = 0;
            lines = 0;
            result = 0;
            frames = 0;
            top = 0;
            heap.clear();
        }

        void leave() {
            state = GONE;
            emptyOut();
        }

        void copyFrom(Traveller w) {
            number = w.number;
            program = w.program;
            state = w.state;
            moves = w.moves;
            other = w.other;
            size = w.size;
            parts = w.parts;
            if (state == COMING && w.bytes != null) {
                haveBytes();
                System.arraycopy(w.bytes, 0, bytes, 0, w.size);
            }
            copyInner(w);
        }

        private void copyInner(Traveller w) {
            steps = w.steps;
            calls = w.calls;
            lines = w.lines;
            System.arraycopy(w.printed, 0, printed, 0, w.keptLines());
            result = w.result;
            frames = w.frames;
            System.arraycopy(w.method, 0, method, 0, frames);
            System.arraycopy(w.place, 0, place, 0, frames);
            System.arraycopy(w.base, 0, base, 0, frames);
            haveRoom(w.top);
            top = w.top;
            System.arraycopy(w.values, 0, values, 0, top);
            heap.copyFrom(w.heap);
        }

        void becomeWhole(Traveller unpacked) {
            state = HERE_WHOLE;
            parts = 0;
            copyInner(unpacked);
        }

        boolean isOnItsWay() {
            return state == OFFERED || state == SENT;
        }

        int keptLines() {
            return Math.min(lines, LINES_KEPT);
        }

        // -- parts that come

        static int partsOf(int size) {
            return (size + PART_BYTES - 1) / PART_BYTES;
        }

        boolean hasAllParts() {
            return Long.bitCount(parts) == partsOf(size);
        }

        int firstLacking() {
            int k = 0;
            while (k < partsOf(size) && (parts >> k & 1) == 1) {
                k++;
            }
            return k;
        }

        void takePart(int k, byte[] from, int start, int length) {
            if (k >= 0 && k < partsOf(size) && k * PART_BYTES + length <= size && (parts >> k & 1) == 0) {
                haveBytes();
                System.arraycopy(from, start, bytes, k * PART_BYTES, length);
                parts |= 1L << k;
            }
        }

        /** Few travellers are ever COMING at one host: only these get the row. */
        private void haveBytes() {
            if (bytes == null) {
                bytes = new byte[BYTES];
            }
        }

        // -- frames

        private void haveRoom(int wanted) {
            if (wanted > values.length) {
                values = Arrays.copyOf(values, Math.max(wanted, 2 * values.length));
            }
        }

        /** A new frame, with those of its slots that are given on the stack already. */
        void enter(Program code, int newMethod, int newBase, int given) {
            int slots = code.methodSlots[newMethod];
            haveRoom(newBase + slots);
            method[frames] = newMethod;
            place[frames] = code.methodFirst[newMethod];
            base[frames] = newBase;
            for (int k = newBase + given; k < newBase + slots; k++) {
                values[k] = 0;
            }
            top = newBase + slots;
            frames++;
        }

        int sizeOf(int frame) {
            return (frame == frames - 1 ? top : base[frame + 1]) - base[frame];
        }

        /** Where a frame stands: the instruction that is done next, of those beneath their CALL. */
        private int standing(int frame) {
            return frame == frames - 1 ? place[frame] : place[frame] - 1;
        }

        int typeOf(Program code, int frame, int k) {
            int slots = code.methodSlots[method[frame]];
            if (k < slots) {
                return code.slotType[method[frame] * Program.SLOTS + k];
            }
            return code.typeAt(standing(frame), k - slots);
        }

        void push(int v) {
            haveRoom(top + 1);
            values[top] = v;
            top++;
        }

        int pop() {
            top--;
            return values[top];
        }

        /** The uppermost of the stack becomes another one. */
        void replace(int v) {
            values[top - 1] = v;
        }

        /** What lies k below the uppermost of the stack. */
        int peek(int k) {
            return values[top - 1 - k];
        }

        void goOn(int v) {
            push(v);
            place[frames - 1]++;
        }

        void answer() {
            int v = pop();
            if (frames == 1) {
                state = ENDED;
                result = v;
            } else {
                frames--;
                top = base[frames];
                push(v);
            }
        }

        void tell(Program code, int told) {
            for (int i = frames - 1; i >= 0; i--) {
                int to = code.handler[standing(i)];
                if (to >= 0) {
                    frames = i + 1;
                    place[i] = to;
                    top = base[i] + code.methodSlots[method[i]];
                    push(told);
                    return;
                }
            }
            state = FAILED;
            result = told;
        }

        void print(int v) {
            if (lines < LINES_KEPT) {
                printed[lines] = v;
            }
            if (lines < GREATEST) {
                lines++;
            }
        }

        /** Leaves in the heap what can be reached, numbered as it would be PACKED now. */
        void tidy(Program code, Heap spare) {
            spare.clear();
            heap.forgetMoves();
            for (int i = 0; i < frames; i++) {
                int here = sizeOf(i);
                for (int k = 0; k < here; k++) {
                    if (Program.kindOf(typeOf(code, i, k)) == 1) {
                        values[base[i] + k] = spare.takeOver(heap, values[base[i] + k]);
                    }
                }
            }
            spare.takeOverFields(heap, code);
            spare.program = heap.program;
            heap.copyFrom(spare);
        }
    }

    /** All that a host has, and that it puts by when it KEEPS itself. */
    private static final class State {
        static final int KEYS = 20;
        static final int THINGS = 20;
        static final int GIVEN_UPS = 30;

        int programs = 0;
        int count = 0;
        final Traveller[] travellers = new Traveller[TRAVELLERS];

        int keys = 0;
        private final int[] boardKey = new int[KEYS];
        private final int[] boardNumber = new int[KEYS];

        int things = 0;
        final Heap[] shelf = new Heap[THINGS];

        /** Of each traveller: its latest move that is over here; 0, if there is none. */
        final int[] over = new int[TRAVELLERS];
        /** Of each traveller: its latest call that was answered here (0: none), and the answer. */
        final int[] answeredCall = new int[TRAVELLERS];
        final int[] answerSort = new int[TRAVELLERS];
        final int[] answerNumber = new int[TRAVELLERS];

        int givenUps = 0;
        private final int[] givenUpTraveller = new int[GIVEN_UPS];
        private final int[] givenUpMove = new int[GIVEN_UPS];

        void copyFrom(State other) {
            programs = other.programs;
            count = 0;
            for (int i = 0; i < other.count; i++) {
                newTraveller().copyFrom(other.travellers[i]);
            }
            keys = other.keys;
            System.arraycopy(other.boardKey, 0, boardKey, 0, keys);
            System.arraycopy(other.boardNumber, 0, boardNumber, 0, keys);
            things = 0;
            for (int i = 0; i < other.things; i++) {
                newThing().copyFrom(other.shelf[i]);
            }
            System.arraycopy(other.over, 0, over, 0, TRAVELLERS);
            System.arraycopy(other.answeredCall, 0, answeredCall, 0, TRAVELLERS);
            System.arraycopy(other.answerSort, 0, answerSort, 0, TRAVELLERS);
            System.arraycopy(other.answerNumber, 0, answerNumber, 0, TRAVELLERS);
            givenUps = other.givenUps;
            System.arraycopy(other.givenUpTraveller, 0, givenUpTraveller, 0, givenUps);
            System.arraycopy(other.givenUpMove, 0, givenUpMove, 0, givenUps);
        }

        boolean has(int program) {
            return program >= 0 && program < PROGRAMS && (programs >> program & 1) == 1;
        }

        Traveller find(int t) {
            for (int i = 0; i < count; i++) {
                if (travellers[i].number == t) {
                    return travellers[i];
                }
            }
            return null;
        }

        /** The one behind all; there is room, as no number is here twice. What it has is not cleared. */
        Traveller newTraveller() {
            int i = Math.min(count, TRAVELLERS - 1);
            if (travellers[i] == null) {
                travellers[i] = new Traveller();
            }
            count = i + 1;
            return travellers[i];
        }

        /** The object goes behind the others, to be used again. */
        void remove(int t) {
            Traveller removed = null;
            for (int i = 0; i < count; i++) {
                if (travellers[i].number == t) {
                    removed = travellers[i];
                }
                if (removed != null && i + 1 < count) {
                    travellers[i] = travellers[i + 1];
                }
            }
            if (removed != null) {
                count--;
                travellers[count] = removed;
            }
        }

        int busy() {
            int found = 0;
            for (int i = 0; i < count; i++) {
                int state = travellers[i].state;
                found += state == GONE || state == ENDED || state == FAILED ? 0 : 1;
            }
            return found;
        }

        private int keyAt(int key) {
            for (int i = 0; i < keys; i++) {
                if (boardKey[i] == key) {
                    return i;
                }
            }
            return NONE;
        }

        int boardValue(int key) {
            int i = keyAt(key);
            return i < 0 ? 0 : boardNumber[i];
        }

        boolean putOnBoard(int key, int number) {
            int i = keyAt(key);
            if (i < 0) {
                if (keys == KEYS) {
                    return false;
                }
                i = keys;
                boardKey[i] = key;
                keys++;
            }
            boardNumber[i] = number;
            return true;
        }

        /** Asked for only while there is room. What it has is not cleared. */
        Heap newThing() {
            int i = Math.min(things, THINGS - 1);
            if (shelf[i] == null) {
                shelf[i] = new Heap();
            }
            things = i + 1;
            return shelf[i];
        }

        boolean wasGivenUp(int t, int move) {
            for (int i = 0; i < givenUps; i++) {
                if (givenUpTraveller[i] == t && givenUpMove[i] == move) {
                    return true;
                }
            }
            return false;
        }

        void noteGivenUp(int t, int move) {
            if (wasGivenUp(t, move)) {
                return;
            }
            if (givenUps == GIVEN_UPS) {
                givenUps--;
                System.arraycopy(givenUpTraveller, 1, givenUpTraveller, 0, givenUps);
                System.arraycopy(givenUpMove, 1, givenUpMove, 0, givenUps);
            }
            givenUpTraveller[givenUps] = t;
            givenUpMove[givenUps] = move;
            givenUps++;
        }
    }

    /** MESSAGES from one host to another, in a ring: of each its sort, its traveller, its numbers, and a PART's bytes. */
    private static final class Line {
        static final int MOST = 40;
        static final int WIDTH = 10;

        int count = 0;
        private int oldest = 0;
        private final int[] numbers = new int[MOST * WIDTH];
        private final int[] lengths = new int[MOST];
        private final byte[] bytes = new byte[MOST * Traveller.PART_BYTES];
        private final long[] sums = new long[MOST];

        private int spotOf(int i) {
            return (oldest + i) % MOST;
        }

        int numberOf(int i, int what) {
            if (i < 0 || i >= count) {
                return NONE;
            }
            int spot = spotOf(i);
            return what < 0 || what >= lengths[spot] ? NONE : numbers[spot * WIDTH + what];
        }

        boolean add(int[] letter, int length) {
            if (count == MOST) {
                return false;
            }
            int spot = spotOf(count);
            System.arraycopy(letter, 0, numbers, spot * WIDTH, length);
            lengths[spot] = length;
            count++;
            return true;
        }

        void addBytes(byte[] from, int start, int length) {
            int spot = spotOf(count - 1);
            System.arraycopy(from, start, bytes, spot * Traveller.PART_BYTES, length);
            sums[spot] = Packer.sumOf(from, start, start + length);
        }

        void dropOldest() {
            oldest = spotOf(1);
            count--;
        }

        boolean doubleOldest() {
            if (count == MOST) {
                return false;
            }
            copyOldest(spotOf(count));
            count++;
            return true;
        }

        /** In a full ring the spot behind all is its own. */
        void oldestBehindAll() {
            copyOldest(spotOf(count));
            oldest = spotOf(1);
        }

        private void copyOldest(int to) {
            System.arraycopy(numbers, oldest * WIDTH, numbers, to * WIDTH, WIDTH);
            int width = Traveller.PART_BYTES;
            System.arraycopy(bytes, oldest * width, bytes, to * width, width);
            lengths[to] = lengths[oldest];
            sums[to] = sums[oldest];
        }

        boolean spoilOldest() {
            if (numberOf(0, 0) != PART) {
                return false;
            }
            int last = oldest * Traveller.PART_BYTES + numberOf(0, 4) - 1;
            bytes[last] = (byte) ~bytes[last];
            return true;
        }

        boolean oldestIsSound() {
            int from = oldest * Traveller.PART_BYTES;
            return Packer.sumOf(bytes, from, from + numberOf(0, 4)) == sums[oldest];
        }

        void oldestInto(Traveller w) {
            w.takePart(numberOf(0, 3), bytes, oldest * Traveller.PART_BYTES, numberOf(0, 4));
        }
    }

    /** Writes PACKED bytes. */
    private static final class Packer {
        static final long FACTOR = 0x9E3779B97F4A7C15L;
        static final int SUM_BYTES = 8;

        byte[] bytes = new byte[256];
        int count = 0;

        static long sumOf(byte[] row, int from, int to) {
            long sum = 0;
            for (int i = from; i < to; i++) {
                long mixed = sum ^ (row[i] & 255);
                sum = (mixed << 11 | mixed >>> 53) * FACTOR;
            }
            return sum;
        }

        /** The heap must be tidy. */
        void write(Traveller w, Program code) {
            count = 0;
            haveRoom(w);
            bytes[0] = 84;
            bytes[1] = 82;
            count = 2;
            num(w.isOnItsWay() ? 1 : 0);
            num(w.program);
            num(code.sum);
            num(w.number);
            num(w.steps);
            num(w.moves);
            num(w.calls);
            num(w.lines);
            for (int i = 0; i < w.keptLines(); i++) {
                num(w.printed[i]);
            }
            num(w.frames);
            for (int i = 0; i < w.frames; i++) {
                writeFrame(w, code, i);
            }
            writeHeap(w.heap, code);
            long sum = sumOf(bytes, 0, count);
            for (int shift = 56; shift >= 0; shift -= 8) {
                bytes[count] = (byte) (sum >> shift);
                count++;
            }
        }

        /** A NUM has five bytes at most, a THING's two NUMs seven. */
        private void haveRoom(Traveller w) {
            int nums = 10 + w.keptLines() + 2 * w.frames + w.top + 1 + 2 * w.heap.count + w.heap.start[w.heap.count];
            int wanted = 2 + 7 * nums + SUM_BYTES;
            if (wanted > bytes.length) {
                bytes = new byte[2 * wanted];
            }
        }

        private void writeFrame(Traveller w, Program code, int i) {
            num(w.method[i]);
            num(w.place[i]);
            int size = w.sizeOf(i);
            for (int k = 0; k < size; k++) {
                typed(w.typeOf(code, i, k), w.values[w.base[i] + k]);
            }
        }

        private void writeHeap(Heap heap, Program code) {
            num(heap.count);
            for (int i = 0; i < heap.count; i++) {
                boolean row = heap.sort[i] == Heap.ROW_SORT;
                num(row ? 1 : 0);
                num(row ? heap.lengthOf(i) : heap.sort[i]);
                for (int k = 0; k < heap.lengthOf(i); k++) {
                    typed(heap.typeOf(code, i, k), heap.cells[heap.start[i] + k]);
                }
            }
        }

        private void typed(int type, int held) {
            if (held != 0 && Program.kindOf(type) == 2) {
                num((held - 1 >> 6) + 1);
                num(held - 1 & 63);
            } else {
                num(held);
            }
        }

        private void num(int n) {
            int rest = n << 1 ^ n >> 31;
            for (int i = 0; i < 4 && (rest & ~127) != 0; i++) {
                bytes[count] = (byte) (rest & 127 | 128);
                count++;
                rest >>>= 7;
            }
            bytes[count] = (byte) rest;
            count++;
        }
    }

    /** Reads PACKED bytes into a traveller of its own. Behind the first fault it reads nothing more. */
    private static final class Unpacker {
        static final int TOO_SHORT_OR_LONG = 1;
        static final int OTHER_BYTES = 2;
        static final int NO_NUM = 3;
        static final int CANT_BE = 4;

        final Traveller into = new Traveller();
        int fault = 0;
        int faultPlace = 0;
        private byte[] bytes = null;
        private int count = 0;
        private int spot = 0;
        private boolean onItsWay = false;
        private Program code = null;
        private int met = 0;
        private final int[] metType = new int[Heap.MOST];
        /** How many OBJECTS and ROWS there can be: as many as are told, once that is read. */
        private int most = 0;

        /** The fault, or 0. way: what is to be told about whether it is on its way. */
        int unpack(byte[] newBytes, int newCount, int way, Program[] programs, int given) {
            bytes = newBytes;
            count = newCount;
            spot = 0;
            fault = 0;
            met = 0;
            most = Heap.MOST;
            onItsWay = way == 1;
            into.begin(0, 0);
            mark(84);
            mark(82);
            within(way, way);
            int before = spot;
            int program = num();
            if (program < 0 || program >= PROGRAMS || (given >> program & 1) == 0) {
                fail(CANT_BE, before);
                return fault;
            }
            code = programs[program];
            into.program = program;
            within(code.sum, code.sum);
            readCounts();
            int frames = within(1, Traveller.FRAMES);
            for (int i = 0; i < frames && fault == 0; i++) {
                readFrame(i, i == frames - 1);
            }
            most = within(met, Heap.MOST);
            for (int i = 0; i < most && fault == 0; i++) {
                readObject(i);
            }
            readEnd();
            return fault;
        }

        private void fail(int what, int where) {
            if (fault == 0) {
                fault = what;
                faultPlace = where;
            }
        }

        private void mark(int wanted) {
            if (fault != 0) {
                return;
            }
            if (spot >= count) {
                fail(TOO_SHORT_OR_LONG, count);
            } else if (bytes[spot] != wanted) {
                fail(OTHER_BYTES, spot);
            }
            spot++;
        }

        private int num() {
            int from = spot;
            long bits = 0;
            int b = 128;
            int read = 0;
            for (; read < 5 && b >= 128 && spot < count && fault == 0; read++) {
                b = bytes[spot] & 255;
                bits |= (long) (b & 127) << 7 * read;
                spot++;
            }
            if (fault == 0 && b >= 128 && read < 5) {
                fault = TOO_SHORT_OR_LONG;
                faultPlace = count;
            } else if (fault == 0 && (b >= 128 || b == 0 && read > 1 || bits > 0xFFFFFFFFL)) {
                fault = NO_NUM;
                faultPlace = from;
            }
            int half = (int) (bits >> 1);
            return fault != 0 ? 0 : (bits & 1) == 0 ? half : ~half;
        }

        private int within(int least, int greatest) {
            int from = spot;
            int n = num();
            if (n < least || n > greatest) {
                fail(CANT_BE, from);
            }
            return n;
        }

        private void readCounts() {
            into.number = within(0, TRAVELLERS - 1);
            into.steps = within(0, GREATEST);
            into.moves = within(0, GREATEST);
            into.calls = within(0, GREATEST);
            int lines = within(0, GREATEST);
            if (fault != 0) {
                return;
            }
            into.lines = lines;
            for (int i = 0; i < into.keptLines() && fault == 0; i++) {
                into.printed[i] = num();
            }
        }

        private void readFrame(int i, boolean uppermost) {
            int wanted = i == 0 ? code.methodCount - 1 : code.first[into.place[i - 1] - 1];
            int method = within(wanted, wanted);
            int before = spot;
            int place = num();
            int standing = uppermost ? place : place - 1;
            if (fault != 0 || !canStand(method, place, standing, uppermost)) {
                fail(CANT_BE, before);
                return;
            }
            int slots = code.methodSlots[method];
            into.enter(code, method, into.top, slots);
            into.place[i] = place;
            int from = into.base[i];
            for (int k = 0; k < slots && fault == 0; k++) {
                into.values[from + k] = typed(code.slotType[method * Program.SLOTS + k]);
            }
            int taken = uppermost ? onItsWay ? 1 : 0 : code.second[standing] + 1;
            int height = code.heightAt(standing) - taken;
            for (int k = 0; k < height && fault == 0; k++) {
                into.push(typed(code.typeAt(standing, k)));
            }
        }

        private boolean canStand(int method, int place, int standing, boolean uppermost) {
            int first = code.methodFirst[method];
            int end = code.endOf(method);
            if (place < first || place >= end || standing < first) {
                return false;
            }
            if (code.heightAt(place) < 0 || code.heightAt(standing) < 0) {
                return false;
            }
            int operation = code.operation[standing];
            return uppermost ? !onItsWay || operation == Program.GO : operation == Program.ENTER;
        }

        private int typed(int type) {
            switch (type) {
                case Program.INT: return num();
                case Program.BOOL: return within(0, 1);
                case Program.NULL_TYPE: return within(0, 0);
                default: break;
            }
            if (!Program.isThing(type)) {
                return ref(type);
            }
            int host = within(0, HOSTS);
            return host == 0 || fault != 0 ? 0 : 1 + 64 * (host - 1) + within(0, State.THINGS - 1);
        }

        private int ref(int type) {
            int from = spot;
            int n = num();
            if (fault != 0) {
                return 0;
            }
            if (n < 0 || n > met + 1 || n > most) {
                fail(CANT_BE, from);
                return 0;
            }
            if (n == met + 1) {
                metType[met] = type;
                met++;
            }
            if (n > 0 && metType[n - 1] != type) {
                fail(CANT_BE, from);
            }
            return n;
        }

        private void readObject(int number) {
            if (number >= met) {
                fail(CANT_BE, spot);
                return;
            }
            int type = metType[number];
            Heap heap = into.heap;
            boolean row = type == Program.ROW;
            within(row ? 1 : 0, row ? 1 : 0);
            int before = spot;
            int sort = row ? Heap.ROW_SORT : Program.classOf(type);
            int length = row ? within(0, Heap.LONGEST) : within(sort, sort);
            if (fault != 0) {
                return;
            }
            length = row ? length : code.classFields[sort];
            if (!heap.fits(length)) {
                fail(CANT_BE, before);
                return;
            }
            heap.add(sort, length);
            for (int k = 0; k < length && fault == 0; k++) {
                heap.cells[heap.start[number] + k] = typed(heap.typeOf(code, number, k));
            }
        }

        private void readEnd() {
            int end = spot + Packer.SUM_BYTES;
            if (count != end) {
                fail(TOO_SHORT_OR_LONG, Math.min(count, end));
            }
            if (fault != 0) {
                return;
            }
            long sum = Packer.sumOf(bytes, 0, spot);
            for (int i = 0; i < Packer.SUM_BYTES; i++) {
                if (bytes[spot + i] != (byte) (sum >> 56 - 8 * i)) {
                    fail(OTHER_BYTES, spot);
                }
            }
        }
    }

    /** Hosts, lines and programs, and what runs there. */
    private static final class Engine {
        static final int MOST_GIVEN = 4;
        static final int CALL_STEPS = 500;
        static final int PARTS_AT_ONCE = 20;

        static final int NULL_AHEAD = -1;
        static final int NOT_WITHIN = -2;
        static final int BY_ZERO = -3;
        static final int NO_ROOM = -4;
        static final int NO_HOST = -5;
        static final int NO_CALL = -6;

        /** What act() and its parts answer, beside what is told (below 0). */
        static final int MADE = 0;
        static final int CROWDED = 1;
        static final int OUTWARD = 2;

        final Program[] programs = new Program[PROGRAMS];
        int programCount = 0;
        final State[] now = new State[HOSTS];
        final State[] kept = new State[HOSTS];
        final boolean[] up = new boolean[HOSTS];
        final int[] keeps = new int[HOSTS];
        final Line[] lines = new Line[HOSTS * HOSTS];
        int begun = 0;
        int lost = 0;

        /** The ARGUMENTS of a call of a THING, and what came of it: 0 an answer or 1 told, and the number. */
        final int[] given = new int[MOST_GIVEN];
        int answerSort = 0;
        int answerNumber = 0;

        private final int[] letter = new int[Line.WIDTH];
        private final Packer packer = new Packer();
        private final Heap spare = new Heap();
        /** Who runs the methods of THINGS. */
        private final Traveller errand = new Traveller();

        Engine() {
            for (int h = 0; h < HOSTS; h++) {
                now[h] = new State();
                kept[h] = new State();
                up[h] = true;
            }
        }

        Program known(int p) {
            return p >= 0 && p < programCount ? programs[p] : null;
        }

        State seen(int h) {
            return up[h] ? now[h] : kept[h];
        }

        void keep(int h) {
            kept[h].copyFrom(now[h]);
            keeps[h]++;
        }

        boolean takesOneMore(int h) {
            return up[h] && now[h].busy() < BUSY && begun < TRAVELLERS;
        }

        void tidy(Traveller w) {
            w.tidy(programs[w.program], spare);
        }

        // -- messages that go

        int messages() {
            int found = 0;
            for (int i = 0; i < lines.length; i++) {
                found += lines[i] == null ? 0 : lines[i].count;
            }
            return found;
        }

        /** The letter's numbers from its third on are written already. */
        private boolean post(int from, int to, int sort, int t, int length) {
            int i = from * HOSTS + to;
            if (lines[i] == null) {
                lines[i] = new Line();
            }
            letter[0] = sort;
            letter[1] = t;
            boolean taken = lines[i].add(letter, length);
            lost += taken ? 0 : 1;
            return taken;
        }

        void send(int from, int to, int sort, int t, int move) {
            letter[2] = move;
            post(from, to, sort, t, 3);
        }

        void sendNo(int from, int to, int t, int move, int why) {
            letter[2] = move;
            letter[3] = why;
            post(from, to, NO, t, 4);
        }

        void sendReady(int from, int to, Traveller w) {
            letter[2] = w.moves;
            letter[3] = w.firstLacking();
            post(from, to, READY, w.number, 4);
        }

        void sendOffer(int from, Traveller w) {
            letter[2] = w.moves;
            letter[3] = w.size;
            letter[4] = w.program;
            post(from, w.other, OFFER, w.number, 5);
        }

        void sendParts(int from, int to, Traveller w, int first) {
            Program code = programs[w.program];
            w.tidy(code, spare);
            packer.write(w, code);
            int parts = Traveller.partsOf(packer.count);
            for (int i = 0; i < PARTS_AT_ONCE; i++) {
                int k = first + i;
                if (k < 0 || k >= parts) {
                    return;
                }
                int start = k * Traveller.PART_BYTES;
                int length = Math.min(Traveller.PART_BYTES, packer.count - start);
                letter[2] = w.moves;
                letter[3] = k;
                letter[4] = length;
                if (post(from, to, PART, w.number, 5)) {
                    lines[from * HOSTS + to].addBytes(packer.bytes, start, length);
                }
            }
        }

        void sendCall(int from, Traveller w) {
            Program code = programs[w.program];
            int place = w.place[w.frames - 1];
            int count = code.second[place];
            int thing = w.peek(count) - 1;
            letter[2] = w.calls;
            letter[3] = thing & 63;
            letter[4] = w.program;
            letter[5] = code.first[place];
            for (int i = 0; i < count && i < MOST_GIVEN; i++) {
                letter[6 + i] = w.peek(count - 1 - i);
            }
            post(from, thing >> 6, CALL, w.number, 6 + count);
        }

        void sendAnswer(int from, int to, int t, int call) {
            letter[2] = call;
            letter[3] = now[from].answerSort[t];
            letter[4] = now[from].answerNumber[t];
            post(from, to, ANSWER, t, 5);
        }

        // -- steps

        int runAll(int here, int n) {
            State state = now[here];
            int made = 0;
            for (int i = 0; i < state.count && i < TRAVELLERS; i++) {
                Traveller w = state.travellers[i];
                Program code = programs[w.program];
                for (int k = 0; k < n && w.state == ACTING; k++) {
                    w.steps += w.steps < GREATEST ? 1 : 0;
                    made++;
                    int sort = act(w, code, here);
                    if (sort == CROWDED) {
                        w.tidy(code, spare);
                        sort = act(w, code, here);
                    }
                    if (sort == CROWDED) {
                        w.tell(code, NO_ROOM);
                    } else if (sort == OUTWARD) {
                        switch (code.operation[w.place[w.frames - 1]]) {
                            case Program.GO:
                                depart(w, code, here);
                                break;
                            case Program.PIN:
                                pin(w, code, here);
                                break;
                            case Program.TWIN:
                                twin(w, code, state);
                                break;
                            default:
                                callFar(w, code, here);
                                break;
                        }
                    }
                }
            }
            return made;
        }

        /** An instruction; if it needs more of the heap or what is outside the traveller, nothing has been done yet. */
        private int act(Traveller w, Program code, int here) {
            int frame = w.frames - 1;
            int place = w.place[frame];
            int a = code.first[place];
            int next = place + 1;
            int told = MADE;
            switch (code.operation[place]) {
                case Program.NUMBER:
                    w.push(a);
                    break;
                case Program.NULL:
                    w.push(0);
                    break;
                case Program.LOAD:
                    w.push(w.values[w.base[frame] + a]);
                    break;
                case Program.STORE:
                    w.values[w.base[frame] + a] = w.pop();
                    break;
                case Program.HERE:
                    w.push(here);
                    break;
                case Program.SELF:
                    w.push(w.number);
                    break;
                case Program.DROP:
                    w.pop();
                    break;
                case Program.JUMP:
                    next = a;
                    break;
                case Program.UNLESS:
                    next = w.pop() == 0 ? a : next;
                    break;
                case Program.RETURN:
                    w.answer();
                    return MADE;
                case Program.ENTER:
                    told = enter(w, code, place);
                    break;
                case Program.RAISE:
                    w.tell(code, w.peek(0));
                    return MADE;
                case Program.GO:
                case Program.PIN:
                case Program.TWIN:
                case Program.FAR:
                    return OUTWARD;
                default:
                    told = reckon(w, code.operation[place], a, code.second[place], here);
                    told = told == OUTWARD ? onHeap(w, code, code.operation[place], a) : told;
                    break;
            }
            if (told < 0) {
                w.tell(code, told);
            } else if (told == MADE) {
                w.place[frame] = next;
            }
            return told < 0 ? MADE : told;
        }

        private static int enter(Traveller w, Program code, int place) {
            int count = code.second[place];
            if (w.peek(count) == 0) {
                return NULL_AHEAD;
            }
            if (w.frames == Traveller.FRAMES) {
                return NO_ROOM;
            }
            w.enter(code, code.first[place], w.top - count - 1, count + 1);
            return MADE;
        }

        /** Numbers and the BOARD; OUTWARD, if it is none of these. */
        private int reckon(Traveller w, int operation, int a, int b, int here) {
            switch (operation) {
                case Program.SIGN:
                    if ((a == 3 || a == 4) && w.peek(0) == 0) {
                        return BY_ZERO;
                    }
                    int right = w.pop();
                    w.push(signed(a, w.pop(), right));
                    return MADE;
                case Program.SAME:
                    boolean alike = w.pop() == w.pop();
                    w.push(alike == (b == 0) ? 1 : 0);
                    return MADE;
                case Program.MINUS:
                    w.push(-w.pop());
                    return MADE;
                case Program.NOT:
                    w.push(1 - w.pop());
                    return MADE;
                case Program.PRINT:
                    int printed = w.pop();
                    if (w != errand) {
                        w.print(printed);
                    }
                    return MADE;
                case Program.PUT:
                    if (!now[here].putOnBoard(w.peek(1), w.peek(0))) {
                        return NO_ROOM;
                    }
                    w.top -= 2;
                    return MADE;
                case Program.GET:
                    w.push(now[here].boardValue(w.pop()));
                    return MADE;
                default:
                    return OUTWARD;
            }
        }

        private static int signed(int sign, int left, int right) {
            switch (sign) {
                case 0: return left + right;
                case 1: return left - right;
                case 2: return left * right;
                case 3: return right == 0 ? 0 : left / right;
                case 4: return right == 0 ? 0 : left % right;
                case 5: return left < right ? 1 : 0;
                case 6: return left <= right ? 1 : 0;
                case 7: return left > right ? 1 : 0;
                case 8: return left >= right ? 1 : 0;
                case 9: return left == right ? 1 : 0;
                default: return left != right ? 1 : 0;
            }
        }

        private int onHeap(Traveller w, Program code, int operation, int a) {
            switch (operation) {
                case Program.NEW:
                    if (!w.heap.fits(code.classFields[a])) {
                        return CROWDED;
                    }
                    w.push(w.heap.add(a, code.classFields[a]));
                    return MADE;
                case Program.NEW_ROW:
                    return newRow(w);
                case Program.ELEMENT:
                    return element(w, 1, false);
                case Program.SET_ELEMENT:
                    return element(w, 2, true);
                default:
                    break;
            }
            int under = operation == Program.SET_FIELD ? 1 : 0;
            Heap heap = w.heap;
            int i = w.peek(under) - 1;
            if (i < 0 || i >= heap.count) {
                return NULL_AHEAD;
            }
            int number = w.pop();
            if (operation == Program.SET_FIELD) {
                heap.cells[heap.start[i] + a] = number;
                w.pop();
            } else {
                w.push(operation == Program.LENGTH ? heap.lengthOf(i) : heap.cells[heap.start[i] + a]);
            }
            return MADE;
        }

        private static int newRow(Traveller w) {
            int length = w.peek(0);
            if (length < 0) {
                return NOT_WITHIN;
            }
            if (length > Heap.LONGEST) {
                return NO_ROOM;
            }
            if (!w.heap.fits(length)) {
                return CROWDED;
            }
            w.replace(w.heap.add(Heap.ROW_SORT, length));
            return MADE;
        }

        /** under: how deep the ROW lies on the stack. */
        private static int element(Traveller w, int under, boolean set) {
            Heap heap = w.heap;
            int i = w.peek(under) - 1;
            int k = w.peek(under - 1);
            if (i < 0 || i >= heap.count) {
                return NULL_AHEAD;
            }
            if (k < 0 || k >= heap.lengthOf(i)) {
                return NOT_WITHIN;
            }
            if (set) {
                heap.cells[heap.start[i] + k] = w.peek(0);
                w.top -= 3;
            } else {
                w.top--;
                w.replace(heap.cells[heap.start[i] + k]);
            }
            return MADE;
        }

        // -- what leaves the traveller

        private void depart(Traveller w, Program code, int here) {
            int goal = w.peek(0);
            if (goal < 0 || goal >= HOSTS) {
                w.tell(code, NO_HOST);
                return;
            }
            w.top--;
            if (goal == here) {
                w.goOn(1);
                return;
            }
            w.state = OFFERED;
            w.moves++;
            w.tidy(code, spare);
            packer.write(w, code);
            if (packer.count > Traveller.BYTES) {
                w.state = ACTING;
                w.moves--;
                w.push(goal);
                w.tell(code, NO_ROOM);
                return;
            }
            w.other = goal;
            w.size = packer.count;
            keep(here);
            sendOffer(here, w);
        }

        private void pin(Traveller w, Program code, int here) {
            State state = now[here];
            int ref = w.peek(0);
            if (ref == 0) {
                w.tell(code, NULL_AHEAD);
            } else if (state.things == State.THINGS) {
                w.tell(code, NO_ROOM);
            } else {
                int number = state.things;
                Heap thing = state.newThing();
                thing.clear();
                thing.program = w.program;
                w.heap.forgetMoves();
                thing.takeOver(w.heap, ref);
                thing.takeOverFields(w.heap, code);
                w.top--;
                w.goOn(1 + 64 * here + number);
            }
        }

        private void twin(Traveller w, Program code, State state) {
            if (begun >= TRAVELLERS || state.busy() >= BUSY) {
                w.tell(code, NO_ROOM);
                return;
            }
            Traveller second = state.newTraveller();
            second.copyFrom(w);
            second.number = begun;
            second.moves = 0;
            second.calls = 0;
            second.goOn(0);
            w.goOn(begun);
            begun++;
        }

        private void callFar(Traveller w, Program code, int here) {
            int place = w.place[w.frames - 1];
            int count = code.second[place];
            int thing = w.peek(count) - 1;
            if (thing < 0) {
                w.tell(code, NULL_AHEAD);
                return;
            }
            if (thing >> 6 == here) {
                for (int i = 0; i < count && i < MOST_GIVEN; i++) {
                    given[i] = w.peek(count - 1 - i);
                }
                callThing(here, w.number, thing & 63, w.program, code.first[place]);
                hearAnswer(w, answerSort, answerNumber);
                return;
            }
            w.calls++;
            w.state = WAITING;
            keep(here);
            sendCall(here, w);
        }

        /** At its FAR, with all that this takes on the stack. */
        void hearAnswer(Traveller w, int sort, int number) {
            Program code = programs[w.program];
            w.state = ACTING;
            if (sort == 0) {
                w.top -= code.second[w.place[w.frames - 1]] + 1;
                w.goOn(number);
            } else {
                w.tell(code, number);
            }
        }

        /** With the numbers that are given; what came of it stays in answerSort and answerNumber. */
        void callThing(int here, int t, int number, int program, int method) {
            answerSort = 1;
            answerNumber = NO_CALL;
            Program code = known(program);
            if (number < 0 || number >= now[here].things || code == null || method < 0 || method >= code.methodCount) {
                return;
            }
            Heap thing = now[here].shelf[number];
            if (thing.program != program || thing.sort[0] != code.methodClass[method]) {
                return;
            }
            Heap own = errand.heap;
            errand.begin(t, program);
            errand.heap = thing;
            errand.push(1);
            for (int i = 0; i < code.methodParameters[method]; i++) {
                errand.push(given[i]);
            }
            errand.enter(code, method, 0, errand.top);
            for (int i = 0; i < CALL_STEPS && errand.state == ACTING; i++) {
                int sort = act(errand, code, here);
                if (sort == CROWDED) {
                    errand.tidy(code, spare);
                    sort = act(errand, code, here);
                }
                if (sort == CROWDED) {
                    errand.tell(code, NO_ROOM);
                } else if (sort == OUTWARD) {
                    refuse(code);
                }
            }
            if (errand.state != ACTING) {
                answerSort = errand.state == ENDED ? 0 : 1;
                answerNumber = errand.result;
            }
            errand.heap = own;
        }

        /** From within a THING nothing goes out; that null is asked first holds there, too. */
        private void refuse(Program code) {
            int place = errand.place[errand.frames - 1];
            boolean ofNull = code.operation[place] == Program.FAR && errand.peek(code.second[place]) == 0;
            errand.tell(code, ofNull ? NULL_AHEAD : NO_CALL);
        }
    }
}
