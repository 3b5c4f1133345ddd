import java.util.Random;

/**
 * Of all promises: whatever is called, nothing is thrown but what the document names; a traveller acts at one host at
 * most and writes what its program writes; what can be packed can be unpacked, and bytes that came are packed alike.
 */
public final class RandomTest {
    private static final Random R = new Random(20261115);

    private static final String[] SOUP = {"bool", "catch", "class", "else", "false", "far", "get", "go", "here", "if", "int",
        "length", "main", "new", "null", "pin", "print", "put", "raise", "return", "self", "this", "true", "try", "twin", "while", "{",
        "}", "(", ")", "[", "]", ";", ",", ".", "=", "==", "!", "!=", "<", "<=", ">", ">=", "+", "-", "*", "/", "%", "&&", "||", "a", "b",
        "C", "D", "m", "1", "0", "77", "\n", "//", "#"};

    private static final String[] TEXTS = {
        "class C{int v;C n;int[] r;far C f;bool w;int up(int k){v=v+k;return v;}int sum(){if(n==null)return v;return v+n.sum();}"
            + "C grow(int k){C c=new C;c.v=k;c.n=this;c.r=new int[k%9+1];c.r[0]=k;return c;}}"
            + "main{C c=new C;far C f=pin c;c.f=f;int i=0;while(i<12){c=c.grow(i);i=i+1;if(!go (i%3))print -1;print here;"
            + "try{print f.up(i);}catch(e){print e;}}return c.sum();}",
        "class N{int a;int b;bool t;N l;N r;int put2(int k){if(k<a){if(l==null){l=new N;l.a=k;}else l.put2(k);}else{if(r==null){r=new N;"
            + "r.a=k;}else r.put2(k);}return 1;}int walk(){int s=a;if(l!=null)s=s+l.walk();go (s%2+1);if(r!=null)s=s+r.walk();return s;}}"
            + "main{N n=new N;n.a=50;int i=7;int k=0;while(k<15){i=i*31%101;try{n.put2(i);}catch(e){print e;}k=k+1;}return n.walk();}",
        "class Q{int v;bool b;int[] r;int add(int a,bool c,int d){if(c)v=v+a*d;r=new int[a%5+1];put a,v;return v;}bool odd(int a){return a%2==1;}}"
            + "main{far Q q=pin new Q;int t=twin;int i=0;while(true){i=i+1;go ((i+self)%5);bool z=true==(q.odd(i)||i%7==3);"
            + "try{print q.add(i,z,t);}catch(e){raise e;}if(i>9&&here==0)return get 4;}}",
        "class C{C n;int m(int k,C c){C d=new C;d.n=c;if(k>20)raise k;try{return 1+m(k+1,d);}catch(e){if(e==-4)go (k%3);return e;}}}"
            + "main{while(true)print new C.m(0,null);}"};

    public static void main(String[] args) {
        Bench b = new Bench();
        soups(b);
        for (int i = 0; i < 300; i++) {
            anyCalls(b, i);
        }
        storms(b);
        for (int i = 0; i < 2000; i++) {
            spoiltBytes(b, i);
        }
        sameWithoutTrouble(b);
        for (int i = 0; i < 60; i++) {
            heights(b, i);
        }
        b.end();
    }

    private static void soups(Bench b) {
        for (int i = 0; i < 4000; i++) {
            StringBuilder text = new StringBuilder();
            if (i % 2 == 0) {
                int n = R.nextInt(60);
                text.append(i % 4 == 0 ? "class C{int a;C b;int m(int a){" : "main{");
                for (int k = 0; k < n; k++) {
                    text.append(SOUP[R.nextInt(SOUP.length)]).append(' ');
                }
            } else {
                // a text that was fine, with some changed
                text.append(TEXTS[R.nextInt(TEXTS.length)]);
                for (int k = R.nextInt(3); k >= 0; k--) {
                    int at = R.nextInt(text.length());
                    String token = SOUP[R.nextInt(SOUP.length)];
                    text.replace(at, Math.min(text.length(), at + R.nextInt(4)), R.nextBoolean() ? token : " " + token + " ");
                }
            }
            b.fresh();
            int got = b.read(text.toString());
            int lines = 1;
            for (int k = 0; k < text.length(); k++) {
                lines += text.charAt(k) == '\n' ? 1 : 0;
            }
            int fault = -got % 16;
            int line = -got / 16;
            boolean good = got == 0 || got == -9 || got < 0 && fault >= 1 && fault <= 8 && line >= 1 && line <= lines;
            b.due("form of the answer to " + text, good, true);
            b.due("all or nothing", b.x.count(1), got == 0 ? 1 : 0);
        }
    }

    private static int any() {
        switch (R.nextInt(12)) {
            case 0: return -1;
            case 1: return Integer.MAX_VALUE;
            case 2: return Integer.MIN_VALUE;
            case 3: return R.nextInt();
            case 4: return R.nextInt(600);
            case 5: return 40;
            default: return R.nextInt(6);
        }
    }

    private static void prepare(Bench b, int i) {
        b.fresh();
        b.due("read", b.read(TEXTS[i % TEXTS.length]), 0);
        for (int h = 0; h < 5; h++) {
            b.x.give(h, 0);
        }
        b.start(0, 0);
        b.start(0, R.nextInt(3));
    }

    private static void anyCalls(Bench b, int round) {
        prepare(b, round);
        House x = b.x;
        while (x.callsMade() < House.MOST_CALLS - 1) {
            int which = R.nextInt(42);
            switch (which) {
                case 0: x.feed(any(), any(), any(), any(), any()); break;
                case 1: x.back(any()); break;
                case 2: x.read(); break;
                case 3: x.program(any(), any()); break;
                case 4: x.method(any(), any(), any()); break;
                case 5: x.instruction(any(), any(), any()); break;
                case 6: x.give(any(), any()); break;
                case 7: b.start(any(), any()); break;
                case 8: b.step(any(), any()); break;
                case 9: x.pass(any(), any()); break;
                case 10: x.trouble(any(), any(), any()); break;
                case 11: x.tick(any()); break;
                case 12: x.power(any(), any()); break;
                case 13: x.giveUp(any(), any()); break;
                case 14: x.count(any()); break;
                case 15: x.host(any(), any()); break;
                case 16: x.at(any(), any()); break;
                case 17: x.traveller(any(), any(), R.nextInt(12)); break;
                case 18: x.line(any(), any(), any()); break;
                case 19: x.frame(any(), any(), any(), any()); break;
                case 20: x.value(any(), any(), any(), any()); break;
                case 21: x.cell(any(), any(), any(), any()); break;
                case 22: x.board(any(), any()); break;
                case 23: x.thing(any(), any(), any()); break;
                case 24: x.message(any(), any(), any(), any()); break;
                case 25: x.pack(any(), any()); break;
                case 26: x.out(any()); break;
                case 27: b.come(any()); break;
                case 28: x.place(); break;
                case 29: x.power(R.nextInt(5), 2); break;
                default:
                    if (which < 34) {
                        b.step(R.nextInt(3), 60);
                    } else {
                        x.pass(R.nextInt(3), R.nextInt(3));
                    }
                    break;
            }
        }
        b.due("it goes on", x.count(2) >= 2, true);
    }

    private static final String TOUR = "main{int i=0;while(i<4){if(go (i%3))print here;else print 10+here;i=i+1;}return i;}";

    private static void tour(Bench b) {
        b.fresh();
        b.due("read", b.read(TOUR), 0);
        for (int h = 0; h < 3; h++) {
            b.x.give(h, 0);
        }
        b.start(0, 0);
    }

    /** Something that happens at three hosts or between them. */
    private static void anything(Bench b, boolean[] up) {
        int h = R.nextInt(3);
        int g = R.nextInt(3);
        switch (R.nextInt(14)) {
            case 0: b.x.trouble(h, g, R.nextInt(4)); break;
            case 1: up[h] = !b.x.power(h, 1) && up[h]; break;
            case 2:
            case 3: up[h] = b.x.power(h, 2) || up[h]; break;
            case 4:
            case 5: b.x.tick(h); break;
            case 6: b.x.giveUp(0, h); break;
            case 7:
            case 8:
            case 9: b.step(h, R.nextInt(30)); break;
            default: b.x.pass(h, (h + 1 + R.nextInt(2)) % 3); break;
        }
    }

    /** Whatever happens a traveller acts at one host that is UP at most. */
    private static void actsAtOne(Bench b) {
        tour(b);
        boolean[] up = {true, true, true};
        while (b.x.callsMade() < House.MOST_CALLS - 4) {
            anything(b, up);
            int found = 0;
            for (int h = 0; h < 3; h++) {
                int state = b.x.traveller(0, h, 0);
                found += up[h] && (state == 0 || state >= 6) ? 1 : 0;
            }
            b.due("acting at one host at most", found <= 1, true);
        }
    }

    private static int endedAt(Bench b) {
        int found = -1;
        for (int h = 0; h < 3; h++) {
            found = b.x.traveller(0, h, 0) == 7 ? h : found;
        }
        return found;
    }

    private static boolean wasDeepInStorms(Bench b) {
        tour(b);
        boolean[] up = {true, true, true};
        for (int i = 0; i < 120; i++) {
            anything(b, up);
        }
        // then it gets calm, and the traveller comes to its end
        for (int h = 0; h < 3; h++) {
            b.x.power(h, 2);
        }
        int ended = endedAt(b);
        while (ended < 0 && b.x.callsMade() < House.MOST_CALLS - 90) {
            boolean quiet = b.x.count(3) == 0;
            for (int h = 0; h < 3; h++) {
                if (quiet) {
                    b.x.tick(h);
                }
                b.step(h, 100);
                b.passAll(h, (h + 1) % 3);
                b.passAll(h, (h + 2) % 3);
            }
            ended = endedAt(b);
        }
        if (ended < 0) {
            return false;
        }
        b.due("with", b.x.traveller(0, ended, 6), 4);
        b.due("lines", b.x.traveller(0, ended, 4), 4);
        int at = 0;
        for (int i = 0; i < 4; i++) {
            int line = b.x.line(0, ended, i);
            at = line < 10 ? i % 3 : at;
            b.due("line", line, line < 10 ? at : 10 + at);
        }
        b.due("moves", b.x.traveller(0, ended, 2) <= 4, true);
        return true;
    }

    private static void storms(Bench b) {
        for (int i = 0; i < 300; i++) {
            actsAtOne(b);
        }
        int ended = 0;
        for (int i = 0; i < 300; i++) {
            ended += wasDeepInStorms(b) ? 1 : 0;
        }
        b.due("most came to their end", ended > 250, true);
    }

    private static void spoiltBytes(Bench b, int round) {
        prepare(b, round);
        for (int i = R.nextInt(4); i >= 0; i--) {
            b.step(0, R.nextInt(40));
            b.settle(0, 1);
            b.step(1, R.nextInt(40));
            b.settle(0, 1);
            b.settle(0, 2);
            b.step(2, R.nextInt(40));
            b.settle(1, 2);
        }
        int h = R.nextInt(3);
        int t = R.nextInt(2);
        int size = b.x.pack(t, h);
        if (size > 0 && b.x.callsMade() + size < House.MOST_CALLS - 3) {
            oneSpoilt(b, b.packed(t, h));
        }
    }

    /** Some bytes are others, the sum is made right: it does not come, or it is just these bytes and runs. */
    private static void oneSpoilt(Bench b, byte[] bytes) {
        int body = bytes.length - 8;
        bytes[2] = 0;
        for (int k = R.nextInt(4); k > 0; k--) {
            bytes[R.nextInt(body)] = (byte) (R.nextInt(3) == 0 ? R.nextInt(256) : R.nextInt(8));
        }
        long sum = Bench.sum(bytes, body);
        for (int i = 0; i < 8; i++) {
            bytes[body + i] = (byte) (sum >>> 56 - 8 * i);
        }
        Bench other = new Bench();
        String text = null;
        for (String t : TEXTS) {
            if (Bench.sum(Bench.bytesOf(t), t.length()) << 48 >>> 48 == b.x.program(0, 3)) {
                text = t;
            }
        }
        other.read(text);
        other.x.give(1, 0);
        other.feed(bytes);
        int t = other.come(1);
        if (t < 0) {
            b.due("fault", t >= -5 && t <= -2, true);
            b.due("place", other.x.place() >= 0 && other.x.place() <= bytes.length, true);
            return;
        }
        byte[] again = other.packed(0, 1);
        int at = 2 + 1 + 1;
        while (bytes[at] < 0) {
            at++;
        }
        // behind the program's sum: number, steps, MOVES and CALLS
        int there = at + 1;
        int here = there;
        for (int i = 0; i < 4; i++) {
            while (bytes[there] < 0) {
                there++;
            }
            while (again[here] < 0) {
                here++;
            }
            there++;
            here++;
        }
        b.due("as long", again.length - here, bytes.length - there);
        for (int i = 0; there + i < body && here + i < again.length; i++) {
            if (again[here + i] != bytes[there + i]) {
                b.due("byte " + (there + i), again[here + i], bytes[there + i]);
            }
        }
        for (int i = 0; i < 10; i++) {
            other.step(1, 97);
            other.x.pass(1, 0);
            other.x.pass(0, 1);
            other.x.value(0, 1, 0, i);
        }
        b.due("it runs", other.x.traveller(0, 1, 0) >= 0, true);
        b.due("within 512 calls", other.x.callsMade() <= House.MOST_CALLS, true);
    }

    /** Step by step: the stack is as high as the code says, of frames beneath without what CALL took and answers. */
    private static void heights(Bench b, int round) {
        prepare(b, round);
        for (int i = R.nextInt(3); i >= 0; i--) {
            b.step(0, R.nextInt(400));
            b.settle(0, 1);
            b.settle(0, 2);
            b.step(1, 500);
            b.step(2, 500);
            b.settle(1, 0);
            b.settle(2, 0);
        }
        while (b.x.callsMade() < House.MOST_CALLS - 2 * 12 * 7) {
            b.step(0, 1 + R.nextInt(3));
            for (int t = 0; t < 2; t++) {
                int frames = b.x.traveller(t, 0, 0) == 0 ? b.x.traveller(t, 0, 5) : 0;
                for (int f = 0; f < frames; f++) {
                    int place = b.x.frame(t, 0, f, 1);
                    int want = f == frames - 1 ? b.x.instruction(0, place, 4) : b.x.instruction(0, place, 4) - 1;
                    b.due("height", b.x.frame(t, 0, f, 3), want);
                    b.due("slots", b.x.frame(t, 0, f, 2), b.x.method(0, b.x.frame(t, 0, f, 0), 2));
                }
            }
        }
    }

    private static final String SUMS = "class C{int v;C n;int f(int k){if(k<2)return v;#C c=new C;c.v=k;n=c;return f(k-1)+n.f(k-2)+v;}}"
        + "main{return new C.f(5);}";

    /** With or without a move in its midst, with or without a fall. */
    private static void sameWithoutTrouble(Bench b) {
        b.answers(SUMS.replace("#", ""), 20);
        for (int i = 0; i < 150; i++) {
            b.begin(SUMS.replace("#", "go (k%2);"));
            int h = -1;
            for (int k = 0; h < 0 && b.x.callsMade() < House.MOST_CALLS - 80; k++) {
                b.step(0, 1 + R.nextInt(50));
                b.step(1, 1 + R.nextInt(50));
                if (k < 25 && R.nextInt(8) == 0) {
                    int fallen = R.nextInt(2);
                    b.x.power(fallen, 1);
                    b.x.power(fallen, 2);
                }
                if (R.nextInt(3) == 0) {
                    b.x.tick(R.nextInt(2));
                }
                b.settle(0, 1);
                h = b.x.traveller(0, 0, 0) == 7 ? 0 : b.x.traveller(0, 1, 0) == 7 ? 1 : -1;
            }
            b.due("ended", h >= 0, true);
            b.due("end", b.x.traveller(0, h, 6), 20);
        }
    }
}
