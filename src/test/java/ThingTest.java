/** Promise 25 and what the other promises say of THINGS: pinned, called at once and from afar. */
public final class ThingTest {
    private static final String UP = "class C{int v;bool w;C n;int[] r;int up(int k){v=v+k;return v;}bool no(bool q){w=!q;return w;}"
        + "int bad(int k){v=v+1;return 1/k;}int who(){print 99;return self*10+here;}int loop(){while(true)v=v+1;}"
        + "int deep(int k){return deep(k+1);}int fill(int k){n=null;r=null;int[] a=new int[100];int[] b=new int[100];"
        + "n=new C;r=new int[92];v=v+1;return new int[k].length;}"
        + "int go1(){return tryIt(0);}int tryIt(int k){try{if(k==0)go here;if(k==1)pin this;if(k==2)twin;if(k==3){far C f=null;f.up(1);}"
        + "if(k==4)return get 5;put 5,k;raise k;}catch(e){return e;}}int sum(int a,int b,int c,int d){return a+10*b+100*c+1000*d;}}";

    public static void main(String[] args) {
        Bench b = new Bench();
        pins(b);
        copies(b);
        atOnce(b);
        within(b);
        fromAfar(b);
        once(b);
        toldFromAfar(b);
        notThere(b);
        kept(b);
        ofOthers(b);
        ofASecondProgram(b);
        twinsCalls(b);
        b.end();
    }

    private static void pins(Bench b) {
        b.answers(UP + "main{int i=0;try{while(true){pin new C;i=i+1;}}catch(e){return e*100-i;}}", -420);
        b.due("things", b.x.host(0, 3), 20);
        b.due("things", b.x.host(1, 3), 0);
        b.answers(UP + "main{C c=new C;c.v=5;far C f=pin c;far C g=pin c;if(f==f&&f!=g&&g!=null)return f.up(1)+10*g.up(2);}", 76);
        b.due("field", b.x.thing(0, 0, 0), 6);
        b.due("field", b.x.thing(0, 1, 0), 7);
        b.due("field", b.x.thing(0, 1, 2), 0);
        b.due("field", b.x.thing(0, 1, 4), 0);
        b.due("field", b.x.thing(0, 1, -1), 0);
        b.due("thing", b.x.thing(0, 2, 0), 0);
        b.due("thing", b.x.thing(0, -1, 0), 0);
        b.due("thing", b.x.thing(1, 0, 0), 0);
        b.due("thing", b.x.thing(5, 0, 0), 0);
        b.due("thing", b.x.thing(-1, 0, 0), 0);
        b.due("value", b.x.value(0, 0, 0, 2), 1);
    }

    private static void copies(Bench b) {
        // what can be reached goes along, as copies
        b.answers("class C{int v;C n;int[] r;int get2(){return v+10*n.v+100*r[1]+1000*n.n.v;}}"
            + "main{C c=new C;c.n=new C;c.n.n=c;c.r=new int[2];c.v=1;c.n.v=2;c.r[1]=3;far C f=pin c;c.v=9;c.n.v=9;c.r[1]=9;return f.get2();}",
            1321);
    }

    private static void atOnce(Bench b) {
        b.answers(UP + "main{far C f=pin new C;f.up(3);return f.up(4)+f.sum(1,2,3,4);}", 4328);
        b.due("calls", b.x.traveller(0, 0, 3), 0);
        b.due("not kept", b.x.host(0, 4), 2);
        b.due("field", b.x.thing(0, 0, 0), 7);
        b.answers(UP + "main{far C f=pin new C;if(f.no(false)&&!f.no(true))return 3;}", 3);
        b.answers(UP + "main{far C f=pin new C;return f.who();}", 0);
        b.answers(UP + "main{far C f=pin new C;try{f.bad(0);}catch(e){return e*10-f.up(0);}}", -31);
        b.fails(UP + "main{far C f=pin new C;f.bad(0);}", -3);
        b.answers(UP + "main{far C f=pin new C;try{f.loop();}catch(e){return e;}}", -6);
        b.due("what it changed stays", b.x.thing(0, 0, 0) > 40, true);
        b.answers(UP + "main{far C f=pin new C;try{f.deep(0);}catch(e){return e;}}", -4);
        b.answers(UP + "main{far C f=pin new C;try{f.fill(1);}catch(e){return e*100-f.up(0);}}", -401);
        // what earlier calls left behind does not count
        b.answers(UP + "main{far C f=pin new C;int i=0;try{f.fill(1);}catch(e){i=e;}return i*100-f.fill(0)-f.fill(0)-f.up(0);}", -403);
        // five hundred steps: LOAD, ANSWER after as many rounds as fit
        String count = "class C{int m(int k){int i=0;while(i<k)i=i+1;return i;}}main{far C f=pin new C;try{return f.m(";
        // two, nine each round, four at the last, two
        b.answers(count + "54);}catch(e){return e;}}", 54);
        b.answers(count + "55);}catch(e){return e;}}", -6);
    }

    private static void within(Bench b) {
        int[] want = {-6, -6, -6, -1, 0, 5};
        for (int k = 0; k < want.length; k++) {
            b.answers(UP + "main{far C f=pin new C;return f.tryIt(" + k + ");}", want[k]);
        }
        b.due("board", b.x.board(0, 5), 5);
        b.due("nothing goes", b.x.count(3), 0);
        b.due("nothing began", b.x.count(2), 1);
        // FAR to another THING tells -6, too
        b.answers("class C{int v;far C o;int set(){return v;}int m(){try{return o.set();}catch(e){return e;}}}"
            + "main{C c=new C;c.o=pin c;far C f=pin c;return f.m();}", -6);
    }

    /** f is pinned at 0, then traveller 0 acts at 1. */
    private static void atOne(Bench b, String rest) {
        b.begin(UP + "main{far C f=pin new C;go 1;" + rest + "}");
        b.step(0, 100);
        b.settle(0, 1);
        b.step(1, 100);
    }

    private static void fromAfar(Bench b) {
        atOne(b, "print f.sum(1,2,3,4);return f.up(5);");
        b.due("WAITING", b.x.traveller(0, 1, 0), 6);
        b.due("calls", b.x.traveller(0, 1, 3), 1);
        b.due("where", b.x.traveller(0, 1, 7), -1);
        b.due("kept", b.x.host(1, 4), 4);
        int place = b.x.frame(0, 1, 0, 1);
        b.due("at its FAR", b.x.instruction(0, place, 0), 12);
        b.due("with all that takes", b.x.frame(0, 1, 0, 3), 5);
        b.due("the THING", b.x.value(0, 1, 0, 1), 0);
        b.due("no pack", b.x.pack(0, 1), -1);
        int[] call = {8, 0, 1, 0, 0, b.x.instruction(0, place, 1), 1, 2, 3, 4, -1};
        for (int what = 0; what < call.length; what++) {
            b.due("CALL " + what, b.x.message(1, 0, 0, what), call[what]);
        }
        b.due("no step", b.step(1, 5), 0);
        int kept = b.x.host(0, 4);
        b.due("CALL", b.x.pass(1, 0), 8);
        b.due("kept", b.x.host(0, 4), kept + 1);
        int[] answer = {9, 0, 1, 0, 4321, -1};
        for (int what = 0; what < answer.length; what++) {
            b.due("ANSWER " + what, b.x.message(0, 1, 0, what), answer[what]);
        }
        int keptOne = b.x.host(1, 4);
        b.due("ANSWER", b.x.pass(0, 1), 9);
        b.due("ACTING", b.x.traveller(0, 1, 0), 0);
        b.due("not kept", b.x.host(1, 4), keptOne);
        b.due("behind its FAR", b.x.frame(0, 1, 0, 1), place + 1);
        b.due("the answer", b.x.value(0, 1, 0, 1), 4321);
        b.step(1, 100);
        b.due("calls", b.x.traveller(0, 1, 3), 2);
        b.due("the second CALL", b.x.message(1, 0, 0, 2), 2);
        b.settle(1, 0);
        b.step(1, 100);
        b.due("end", b.x.traveller(0, 1, 6), 5);
        b.due("field", b.x.thing(0, 0, 0), 5);
    }

    private static void once(Bench b) {
        atOne(b, "int a=f.up(5);return a+10*f.up(0);");
        b.x.tick(1);
        b.x.trouble(1, 0, 1);
        b.due("CALL three times", b.passAll(1, 0), "888");
        b.due("done once", b.x.thing(0, 0, 0), 5);
        b.due("ANSWER three times", b.x.count(3), 3);
        int kept = b.x.host(0, 4);
        b.x.pass(0, 1);
        b.step(1, 100);
        b.due("an old ANSWER does nothing", b.x.pass(0, 1), 9);
        b.due("WAITING", b.x.traveller(0, 1, 0), 6);
        b.x.trouble(1, 0, 1);
        b.x.pass(1, 0);
        b.due("kept", b.x.host(0, 4), kept + 1);
        b.passAll(0, 1);
        b.step(1, 100);
        b.due("end", b.x.traveller(0, 1, 6), 55);
        b.due("again", b.x.pass(1, 0), 8);
        b.due("ANSWER again", b.x.message(0, 1, 0, 2), 2);
        b.due("not kept", b.x.host(0, 4), kept + 1);
        b.due("to one that has ENDED", b.x.pass(0, 1), 9);
        b.due("end", b.x.traveller(0, 1, 6), 55);
        // one that is older than what is kept
        atOne(b, "f.up(5);f.up(6);while(true)1;");
        b.x.trouble(1, 0, 1);
        b.x.pass(1, 0);
        b.x.pass(0, 1);
        b.step(1, 100);
        b.x.trouble(1, 0, 2);
        b.due("the second", b.x.message(1, 0, 0, 2), 2);
        b.x.pass(1, 0);
        b.due("the first", b.x.message(1, 0, 0, 2), 1);
        b.due("on lines", b.x.count(3), 2);
        b.x.pass(1, 0);
        b.due("nothing goes", b.x.count(3), 1);
        b.due("done once each", b.x.thing(0, 0, 0), 11);
    }

    private static void toldFromAfar(Bench b) {
        atOne(b, "try{f.bad(0);}catch(e){return e;}");
        b.x.pass(1, 0);
        b.due("told", b.x.message(0, 1, 0, 3), 1);
        b.due("told", b.x.message(0, 1, 0, 4), -3);
        b.x.pass(0, 1);
        b.step(1, 10);
        b.due("end", b.x.traveller(0, 1, 6), -3);
        atOne(b, "f.bad(0);");
        b.settle(1, 0);
        b.due("FAILED", b.x.traveller(0, 1, 0), 8);
        b.due("with", b.x.traveller(0, 1, 6), -3);
        b.due("what it changed", b.x.thing(0, 0, 0), 1);
        atOne(b, "return f.who();");
        b.settle(1, 0);
        b.step(1, 10);
        b.due("HERE of the THING", b.x.traveller(0, 1, 6), 0);
        b.due("PRINT does nothing", b.x.traveller(0, 1, 4), 0);
        atOne(b, "if(f.no(false))return 8;return 9;");
        b.settle(1, 0);
        b.step(1, 10);
        b.due("a bool", b.x.traveller(0, 1, 6), 8);
        atOne(b, "try{f.loop();}catch(e){return e;}");
        b.settle(1, 0);
        b.step(1, 10);
        b.due("too long", b.x.traveller(0, 1, 6), -6);
    }

    private static void notThere(Bench b) {
        // the host falls and forgets the THING: what was put by had none
        b.begin(UP + "main{far C f=pin new C;while(true)f.up(1);}");
        b.step(0, 20);
        b.due("things", b.x.host(0, 3), 1);
        b.x.power(0, 1);
        b.due("things", b.x.host(0, 3), 0);
        b.x.power(0, 2);
        b.due("steps", b.x.traveller(0, 0, 1), 0);
        // a twin keeps the THING's number over a fall: it is kept with a move, the shelf of another host is not
        b.begin("class C{int v;int up(int k){v=v+k;return v;}}main{go 1;far C f=pin new C;go 0;try{return f.up(1);}catch(e){return e;}}");
        b.step(0, 100);
        b.settle(0, 1);
        b.step(1, 100);
        b.settle(1, 0);
        b.step(0, 100);
        b.due("WAITING", b.x.traveller(0, 0, 0), 6);
        b.due("to", b.x.message(0, 1, 0, 0), 8);
        b.x.power(1, 1);
        b.due("lost", b.x.pass(0, 1), 8);
        b.due("the shelf was kept with GO", b.x.host(1, 3), 1);
        b.x.power(1, 2);
        b.x.tick(0);
        b.settle(0, 1);
        b.step(0, 100);
        b.due("end", b.x.traveller(0, 0, 6), 1);
    }

    private static void kept(Bench b) {
        // the answer is kept with the THING: after a fall it is not done again
        atOne(b, "return f.up(5);");
        b.x.pass(1, 0);
        b.x.trouble(0, 1, 0);
        b.x.power(0, 1);
        b.due("field", b.x.thing(0, 0, 0), 5);
        b.x.power(0, 2);
        b.x.tick(1);
        b.settle(1, 0);
        b.due("done once", b.x.thing(0, 0, 0), 5);
        b.step(1, 10);
        b.due("end", b.x.traveller(0, 1, 6), 5);
        // the caller falls when it got the answer: it asks again
        atOne(b, "return f.up(5);");
        b.settle(1, 0);
        b.step(1, 10);
        b.due("end", b.x.traveller(0, 1, 0), 7);
        b.x.power(1, 1);
        b.x.power(1, 2);
        b.due("WAITING", b.x.traveller(0, 1, 0), 6);
        b.x.tick(1);
        b.settle(1, 0);
        b.step(1, 10);
        b.due("end", b.x.traveller(0, 1, 6), 5);
        b.due("done once", b.x.thing(0, 0, 0), 5);
    }

    /** That a THING is of another program, or class, only bytes can bring about. */
    private static void ofOthers(Bench b) {
        String one = "class D{int v;}class C{int v;int up(int k){v=v+k;return v;}}";
        String two = one + "main{far C f=pin new C;while(true)try{print f.up(1);}catch(e){return e;}}";
        b.fresh();
        b.due("read", b.read(one + "main{pin new D;pin new C;while(true)1;}"), 0);
        b.due("read", b.read(two), 1);
        b.due("read", b.read("class C{int v;int up(int k){v=v+k;return v;}}main{pin new C;pin new C;while(true)1;}"), 2);
        for (int p = 0; p < 3; p++) {
            b.x.give(p, p);
            b.x.give(p, 1);
        }
        b.start(0, 0);
        b.step(0, 20);
        b.start(2, 2);
        b.step(2, 20);
        b.start(1, 1);
        b.step(1, 3);
        // its THING is 0 of host 1; it comes to 0 and 2 with others
        byte[] bytes = b.packed(2, 1);
        int at = bytes.length - 8 - 4;
        b.due("the THING's bytes", bytes[at] == 4 && bytes[at + 1] == 0, true);
        int[][] wants = {{0, 0, -6}, {0, 1, -6}, {0, 2, -6}, {2, 0, -6}, {1, 0, 2}};
        for (int[] w : wants) {
            byte[] other = bytes.clone();
            other[at] = (byte) (2 * (w[0] + 1));
            other[at + 1] = (byte) (2 * w[1]);
            long sum = Bench.sum(other, other.length - 8);
            for (int i = 0; i < 8; i++) {
                other[other.length - 8 + i] = (byte) (sum >>> 56 - 8 * i);
            }
            b.feed(other);
            int t = b.come(w[0]);
            b.due("came", t > 2, true);
            b.step(w[0], 9);
            b.due("of " + w[0] + " " + w[1], w[2] < 0 ? b.x.traveller(t, w[0], 6) : b.x.line(t, w[0], 0), w[2]);
        }
    }

    /** What a call leaves of a THING is still of its program. */
    private static void ofASecondProgram(Bench b) {
        b.fresh();
        b.read("main{}");
        b.due("read", b.read(UP + "main{far C f=pin new C;print f.fill(0);print f.fill(0);print f.fill(0);return f.up(1);}"), 1);
        b.x.give(0, 1);
        b.start(1, 0);
        b.step(0, 50);
        b.due("end", b.x.traveller(0, 0, 6), 4);
        // also when it was put by
        b.fresh();
        b.read("main{}");
        b.due("read", b.read(UP + "main{far C f=pin new C;far C g=pin new C;go 1;print g.up(1);go 2;return f.up(2)+10*g.up(3);}"), 1);
        for (int h = 0; h < 3; h++) {
            b.x.give(h, 1);
        }
        b.start(1, 0);
        b.step(0, 50);
        b.x.power(0, 1);
        b.x.power(0, 2);
        b.settle(0, 1);
        b.step(1, 50);
        b.due("which THING", b.x.message(1, 0, 0, 3), 1);
        b.settle(0, 1);
        b.step(1, 50);
        b.due("line", b.x.line(0, 1, 0), 1);
        b.settle(1, 2);
        b.due("calls go along", b.x.traveller(0, 2, 3), 1);
        b.step(2, 50);
        b.due("the second call", b.x.message(2, 0, 0, 2), 2);
        b.due("which THING", b.x.message(2, 0, 0, 3), 0);
        b.settle(0, 2);
        b.step(2, 50);
        b.settle(0, 2);
        b.step(2, 50);
        b.due("end", b.x.traveller(0, 2, 6), 42);
    }

    private static void twinsCalls(Bench b) {
        atOne(b, "f.up(1);twin;f.up(self+10);while(true)1;");
        b.settle(1, 0);
        b.step(1, 100);
        b.due("calls", b.x.traveller(0, 1, 3), 2);
        b.due("moves", b.x.traveller(0, 1, 2), 1);
        b.due("the twin's", b.x.traveller(1, 1, 3), 1);
        b.due("the twin's moves", b.x.traveller(1, 1, 2), 0);
        b.settle(1, 0);
        b.due("each", b.x.thing(0, 0, 0), 1 + 10 + 11);
    }
}
