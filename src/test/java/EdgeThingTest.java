/** Terms 5, THINGS: the sentences that name an edge, each at the edge itself and on both sides of it. */
public final class EdgeThingTest {
    public static void main(String[] args) {
        Bench b = new Bench();
        twenty(b);
        pinNull(b);
        copies(b);
        fiveHundred(b);
        changesStay(b);
        withinACall(b);
        roomOfACall(b);
        manyArguments(b);
        noSuchThing(b);
        atOnceOrAfar(b);
        sameCall(b);
        olderCall(b);
        perTraveller(b);
        answers(b);
        waitingTicks(b);
        keptWithTheHost(b);
        fields(b);
        fieldsOfADownHost(b);
        numbersUsedAgain(b);
        b.end();
    }

    private static final String C = "class C{int v;bool w;int up(int k){v=v+k;return v;}}";

    /** "numbered from 0 on there, 20 at most (-4)". */
    private static void twenty(Bench b) {
        for (int n : new int[] {0, 1, 19, 20, 21}) {
            String text = C + "main{int i=0;while(i<" + n + "){C c=new C;c.v=100+i;pin c;i=i+1;}return i;}";
            if (n <= 20) {
                b.answers(text, n);
            } else {
                b.fails(text, -4);
            }
            b.due("THINGS", b.x.host(0, 3), Math.min(n, 20));
            for (int i : new int[] {-1, 0, 18, 19, 20, 21}) {
                b.due("thing " + i, b.x.thing(0, i, 0), i >= 0 && i < n && i < 20 ? 100 + i : 0);
            }
        }
        // of each host
        b.begin(C + "main{int i=0;while(i<20){pin new C;i=i+1;}go 1;far C f=pin new C;return f.up(3);}");
        b.step(0, 500);
        b.settle(0, 1);
        b.step(1, 50);
        b.due("at 1", b.x.host(1, 3), 1);
        b.due("numbered from 0 on there", b.x.thing(1, 0, 0), 3);
        b.due("end", b.x.traveller(0, 1, 6), 3);
        // told ones can be handled, and the twenty are still there
        b.answers(C + "main{int i=0;far C f=null;try{while(true){f=pin new C;f.up(i);i=i+1;}}catch(e){return e*1000-f.up(1);}}", -4020);
    }

    /** "null: -1." */
    private static void pinNull(Bench b) {
        b.fails(C + "main{C c=null;pin c;}", -1);
        b.due("none", b.x.host(0, 3), 0);
        b.answers(C + "main{C c=null;try{pin c;}catch(e){return e;}}", -1);
        b.answers(C + "main{C c=new C;far C f=pin c;if(f!=null)return 3;}", 3);
        // what null is, and what the THING of number 0 at host 0 is, are two
        b.due("THING 0 of host 0", b.x.value(0, 0, 0, 1), 0);
    }

    /** "what can be reached from the OBJECT o goes (as copies)". */
    private static void copies(Bench b) {
        String text = "class N{int v;N n;int[] r;int sum(){int s=v;if(r!=null)s=s+r[0]*100;if(n!=null&&n!=this)s=s+10*n.sum();return s;}"
            + "int set(int k){v=k;return k;}}main{";
        b.answers(text + "N a=new N;a.v=1;far N f=pin a;a.v=2;return f.sum()*10+a.sum();}", 12);
        b.answers(text + "N a=new N;a.v=1;far N f=pin a;f.set(7);return f.sum()*10+a.sum();}", 71);
        b.answers(text + "N a=new N;a.n=new N;a.n.v=3;a.r=new int[1];a.r[0]=4;far N f=pin a;a.n.v=5;a.r[0]=6;a.n=null;return f.sum();}", 430);
        b.answers(text + "N a=new N;a.n=a;a.v=2;far N f=pin a;return f.sum();}", 2);
        // the same OBJECT pinned twice is two THINGS
        b.answers(text + "N a=new N;far N f=pin a;far N g=pin a;f.set(3);g.set(4);if(f==g)return 1;return f.sum()*10+g.sum();}", 34);
        // as large as can be: forty OBJECTS and ROWS
        b.answers(text + "N a=null;int i=0;while(i<40){N c=new N;c.n=a;c.v=i;a=c;i=i+1;}far N f=pin a;return f.set(5);}", 5);
    }

    /** "steps of its own, 500 at most (then told -6; what it changed stays)". */
    private static void fiveHundred(Bench b) {
        // LOAD, NUMBER, SET FIELD; n times NUMBER, DROP; some NUMBER, MINUS, DROP; NUMBER, ANSWER
        for (int extra = 0; extra < 4; extra++) {
            int plain = 246;
            int steps = 3 + 2 * plain + 3 * (extra % 2) + 2 * (extra / 2) + 2;
            String text = "class C{int v;int m(){v=5;" + "1;".repeat(plain + extra / 2) + (extra % 2 == 1 ? "-1;" : "") + "return 7;}}";
            boolean fits = steps <= 500;
            b.answers(text + "main{far C f=pin new C;try{return f.m();}catch(e){return e;}}", fits ? 7 : -6);
            b.due("what it changed stays", b.x.thing(0, 0, 0), 5);
            b.due("of FAR alone", b.x.traveller(0, 0, 1), 3 + 2 + (fits ? 1 : 3));
            // from afar, the same
            b.begin(text + "main{far C f=pin new C;go 1;try{return f.m();}catch(e){return e;}}");
            b.step(0, 50);
            b.settle(0, 1);
            b.step(1, 50);
            b.due("CALL", b.x.pass(1, 0), 8);
            b.due("ANSWER", b.said(0, 1, 0), fits ? "9 0 1 0 7" : "9 0 1 1 -6");
            b.due("what it changed stays", b.x.thing(0, 0, 0), 5);
        }
        int[] all = {497, 500, 499, 502};
        for (int extra = 0; extra < 4; extra++) {
            b.due("steps", 3 + 2 * 246 + 3 * (extra % 2) + 2 * (extra / 2) + 2, all[extra]);
        }
        // 501: two signs
        String text = "class C{int v;int m(){v=5;" + "1;".repeat(242) + "-1;".repeat(4) + "return 7;}}";
        b.answers(text + "main{far C f=pin new C;try{return f.m();}catch(e){return e;}}", -6);
        // steps of its own: each call has them anew
        String half = "class C{int v;int m(){v=v+1;" + "1;".repeat(240) + "return v;}}";
        b.answers(half + "main{far C f=pin new C;f.m();f.m();return f.m();}", 3);
        // a method that it calls makes steps of these
        String two = "class C{int n(){" + "1;".repeat(124) + "return 1;}int m(){n();" + "1;".repeat(120) + "return 7;}}";
        b.answers(two + "main{far C f=pin new C;try{return f.m();}catch(e){return e;}}", 7);
        String more = "class C{int n(){" + "1;".repeat(124) + "return 1;}int m(){n();" + "1;".repeat(123) + "return 7;}}";
        b.answers(more + "main{far C f=pin new C;try{return f.m();}catch(e){return e;}}", -6);
    }

    /** "until it answers or is told something (that is what is told)": what was changed until then stays. */
    private static void changesStay(Bench b) {
        String text = "class C{int v;int m(int k){v=v+1;put 3,v;if(k==0)return 1/k;if(k==1)raise 77;if(k==2){int[] r=null;r[0]=1;}"
            + "if(k==3)new int[101];try{raise 5;}catch(e){v=v+e;}return v;}}main{far C f=pin new C;try{return f.m(";
        int[] want = {-3, 77, -1, -4, 6};
        for (int k = 0; k < want.length; k++) {
            b.answers(text + k + ");}catch(e){return e;}}", want[k]);
            b.due("v", b.x.thing(0, 0, 0), k == 4 ? 6 : 1);
            b.due("the BOARD", b.x.board(0, 3), 1);
        }
        // told where FAR is, and by no HANDLER of another place
        b.fails(C.replace("return v;}", "raise v;}") + "main{far C f=pin new C;try{1;}catch(e){return 3;}f.up(4);}", 4);
    }

    /** "PRINT there does nothing, GO, PIN, TWIN and FAR tell -6; SELF is the caller, HERE the host." */
    private static void withinACall(Bench b) {
        String text = "class C{int v;far C f;C n;int m(int k){v=k;print 5;if(k==0)go here;if(k==1)go 1;if(k==2)go 9;if(k==3)pin this;if(k==4)pin n;"
            + "if(k==5)twin;if(k==6)f.m(0);if(k==7)return self;if(k==8)return here;return 50;}"
            + "int t(int k){try{return m(k);}catch(e){return e*10;}}}";
        int[] want = {-6, -6, -6, -6, -6, -6, -1, 0, 0, 50};
        for (int k = 0; k < want.length; k++) {
            b.answers(text + "main{far C f=pin new C;try{return f.m(" + k + ");}catch(e){return e;}}", want[k]);
            b.answers(text + "main{far C f=pin new C;return f.t(" + k + ");}", want[k] < 0 ? want[k] * 10 : want[k]);
            b.due("nothing is sent", b.x.count(3), 0);
            b.due("nobody began", b.x.count(2), 1);
            b.due("one THING", b.x.host(0, 3), 1);
            b.due("MOVES", b.x.traveller(0, 0, 2), 0);
        }
        // FAR of a THING that is there, of its own host and of another one
        b.answers(text + "main{C c=new C;c.f=pin c;far C f=pin c;try{return f.m(6);}catch(e){return e;}}", -6);
        // SELF and HERE from afar
        b.begin(text + "main{far C f=pin new C;go 1;return f.m(7)*10+f.m(8);}");
        b.step(0, 50);
        b.settle(0, 1);
        for (int i = 0; i < 2; i++) {
            b.step(1, 50);
            b.settle(0, 1);
        }
        b.step(1, 50);
        b.due("SELF 0, HERE 0", b.x.traveller(0, 1, 6), 0);
        // by traveller 1, of a THING of host 3
        b.begin(text + "main{go 3;far C f=pin new C;if(self==0)return 1;go 1;return f.m(7)*10+f.m(8);}");
        b.due("start", b.start(0, 0), 1);
        b.step(0, 50);
        b.settle(0, 3);
        b.step(3, 50);
        b.settle(3, 1);
        for (int i = 0; i < 2; i++) {
            b.step(1, 50);
            b.settle(3, 1);
        }
        b.step(1, 50);
        b.due("SELF 1, HERE 3", b.x.traveller(1, 1, 6), 13);
    }

    /** "The same ROOM.": frames, OBJECTS and ROWS, fields and elements, with a heap of what the THING has. */
    private static void roomOfACall(Bench b) {
        String deep = "class C{int m(int k){if(k==0)return 0;return 1+m(k-1);}int n(int k){if(k==0)return f().length;return n(k-1);}int[] f(){return null;}}"
            + "main{far C f=pin new C;try{return f.m(";
        // twelve frames of its own: the method is the first of them
        b.answers(deep + "10);}catch(e){return e;}}", 10);
        b.answers(deep + "11);}catch(e){return e;}}", 11);
        b.answers(deep + "12);}catch(e){return e;}}", -4);
        // whoever calls is not among them
        b.answers("class C{int m(int k){if(k==0)return 0;return 1+m(k-1);}int q(int k,int z){far C f=pin new C;if(k==0)return f.m(11);return q(k-1,z);}}"
            + "main{return new C.q(10,0);}", 11);
        // cells: this has two, and the caller's are not among them
        String cells = "class C{int[] r;C n;int m(int k){r=new int[100];n=new C;n.r=new int[100];return new int[k].length;}}"
            + "main{int[] z=new int[100];int[] y=new int[100];far C f=pin new C;try{return f.m(";
        b.answers(cells + "95);}catch(e){return e;}}", 95);
        b.answers(cells + "96);}catch(e){return e;}}", 96);
        b.answers(cells + "97);}catch(e){return e;}}", -4);
        // OBJECTS: this is one of the forty
        String many = "class C{C n;int m(int k){int i=0;while(i<k){C c=new C;c.n=n;n=c;i=i+1;}return i;}}main{far C f=pin new C;try{return f.m(";
        b.answers(many + "20);}catch(e){return e;}}", 20);
        String list = "class C{C n;C c;int m(int k){while(k>0){c=new C;c.n=n;n=c;k=k-1;}return k;}}main{far C f=pin new C;int i=0;try{i=f.m(19);i=f.m(";
        b.answers(list + "19);return 1;}catch(e){return e;}}", 1);
        b.answers(list + "20);return 1;}catch(e){return e;}}", 1);
        b.answers(list + "21);return 1;}catch(e){return e;}}", -4);
        // what it lets go of counts no more in the next call
        b.answers("class C{int[] r;int m(int k){r=null;int[] z=new int[100];int[] y=new int[100];r=new int[99];return k;}}"
            + "main{far C f=pin new C;int i=0;while(i<5)i=i+f.m(1);return i;}", 5);
    }

    /** Numbers go and come: none, and four of them, at once and from afar; bools as 0 and 1. */
    private static void manyArguments(Bench b) {
        String text = "class C{int v;int n(){return 6;}int m(int a,int c,int d,int e){return a+10*c+100*d+1000*e;}bool o(bool a,int c){return !a;}"
            + "int k(int a){return a;}}";
        b.answers(text + "main{far C f=pin new C;return f.n();}", 6);
        b.answers(text + "main{far C f=pin new C;return f.m(1,2,3,4);}", 4321);
        b.answers(text + "main{far C f=pin new C;if(f.o(false,3)&&!f.o(true,3))return f.k(-2147483647-1);}", Integer.MIN_VALUE);
        b.begin(text + "main{far C f=pin new C;go 1;print f.n();print f.m(-1,2147483647,-2147483647,0);if(f.o(false,-5))print 1;return f.k(-2147483647-1);}");
        b.step(0, 50);
        b.settle(0, 1);
        int[][] calls = {{8, 0, 1, 0, 0, 0, -1}, {8, 0, 2, 0, 0, 1, -1, 2147483647, -2147483647, 0, -1}, {8, 0, 3, 0, 0, 2, 0, -5, -1},
            {8, 0, 4, 0, 0, 3, Integer.MIN_VALUE, -1}};
        for (int[] call : calls) {
            b.step(1, 50);
            for (int what = 0; what < call.length; what++) {
                b.due("CALL's " + what, b.x.message(1, 0, 0, what), call[what]);
            }
            b.due("below", b.x.message(1, 0, 0, -1), -1);
            b.due("far above", b.x.message(1, 0, 0, Integer.MAX_VALUE), -1);
            b.settle(0, 1);
        }
        b.step(1, 50);
        b.due("end", b.x.traveller(0, 1, 6), Integer.MIN_VALUE);
        b.due("CALLS", b.x.traveller(0, 1, 3), 4);
        b.due("line", b.x.line(0, 1, 0), 6);
        b.due("line", b.x.line(0, 1, 1), (int) (-1 + 10L * 2147483647 + 100L * -2147483647));
        b.due("line", b.x.line(0, 1, 2), 1);
    }

    /** "(no such, or of another program or class than the method's: told -6)". */
    private static void noSuchThing(Bench b) {
        String two = "class D{int v;}class C{int v;int up(int k){v=v+k;return v;}}";
        b.fresh();
        b.read(two + "main{pin new D;pin new C;while(true)1;}");
        b.read(two + "main{far C f=null;try{return f.up(1);}catch(e){return e;}}");
        b.x.give(0, 0);
        b.x.give(0, 1);
        b.x.give(1, 1);
        b.x.give(1, 0);
        b.start(0, 0);
        b.step(0, 20);
        b.due("THINGS", b.x.host(0, 3), 2);
        // a traveller of the other program comes with the THING n of host 0, ahead of LOAD, NUMBER, FAR
        int place = b.x.method(1, 1, 3) + 2;
        for (int h = 0; h < 2; h++) {
            for (int n : new int[] {0, 1, 2, 19}) {
                b.feed(new Bytes().nums(0, 1, b.x.program(1, 3), 0, 0, 0, 0, 0, 1, 1, place, 1, n, 0, 0).packed());
                int t = b.come(h);
                b.due("came", t > 0, true);
                b.step(h, 9);
                if (h == 1) {
                    b.due("WAITING", b.x.traveller(t, 1, 0), 6);
                    b.x.pass(1, 0);
                    b.due("told", b.said(0, 1, 0), "9 " + t + " 1 1 -6");
                    b.x.pass(0, 1);
                    b.step(h, 9);
                }
                b.due("THING " + n + " for another program", b.x.traveller(t, h, 6), -6);
            }
        }
        // of the same program: of the class, of another class, none
        String one = two + "main{pin new D;pin new C;far C f=null;while(true)try{print f.up(1);}catch(e){return e;}}";
        b.fresh();
        b.read(one);
        b.x.give(0, 0);
        b.start(0, 0);
        b.step(0, 7);
        b.due("THINGS", b.x.host(0, 3), 2);
        int load = b.x.method(0, 1, 3) + 6 + 2 + 2;
        b.due("LOAD", b.x.instruction(0, load, 0), 2);
        int[] want = {-6, 1, -6, -6};
        for (int n = 0; n < want.length; n++) {
            b.feed(new Bytes().nums(0, 0, b.x.program(0, 3), 0, 0, 0, 0, 0, 1, 1, load, 1, n, 0, 0).packed());
            int t = b.come(0);
            b.due("came", t, n + 1);
            b.step(0, 7);
            b.due("THING " + n, want[n] < 0 ? b.x.traveller(t, 0, 6) : b.x.line(t, 0, 0), want[n]);
            b.x.power(0, 0);
        }
    }

    /** "FAR: of a THING of the traveller's host: done at once (..; nothing is KEPT). Else its CALLS are one more, it is WAITING". */
    private static void atOnceOrAfar(Bench b) {
        String text = C + "main{far C f=pin new C;print f.up(1);go 1;print f.up(2);go 0;print f.up(3);return 9;}";
        b.begin(text);
        b.step(0, 50);
        b.due("at once", b.x.line(0, 0, 0), 1);
        b.due("CALLS", b.x.traveller(0, 0, 3), 0);
        b.settle(0, 1);
        int kept = b.x.host(1, 4);
        int keptThere = b.x.host(0, 4);
        int steps = b.x.traveller(0, 1, 1);
        b.due("DROP, LOAD, NUMBER, FAR", b.step(1, 50), 4);
        b.due("WAITING", b.x.traveller(0, 1, 0), 6);
        b.due("CALLS", b.x.traveller(0, 1, 3), 1);
        b.due("steps", b.x.traveller(0, 1, 1), steps + 4);
        b.due("kept", b.x.host(1, 4), kept + 1);
        b.due("one MESSAGE", b.x.count(3), 1);
        b.due("no steps", b.step(1, 50), 0);
        b.due("not to be given up", b.x.giveUp(0, 1), false);
        b.due("not to be packed", b.x.pack(0, 1), -1);
        b.x.pass(1, 0);
        b.due("kept there", b.x.host(0, 4), keptThere + 1);
        b.x.pass(0, 1);
        b.due("not kept", b.x.host(1, 4), kept + 1);
        b.due("ACTING", b.x.traveller(0, 1, 0), 0);
        b.due("FAR once", b.x.traveller(0, 1, 1), steps + 4);
        b.step(1, 50);
        b.settle(0, 1);
        b.step(0, 50);
        b.due("at once again", b.x.line(0, 0, 2), 6);
        b.due("CALLS", b.x.traveller(0, 0, 3), 1);
        b.due("end", b.x.traveller(0, 0, 6), 9);
    }

    /** f is pinned at 0; the traveller calls from 1. */
    private static void fromOne(Bench b, String rest) {
        b.begin(C + "main{far C f=pin new C;go 1;" + rest + "}");
        b.step(0, 50);
        b.settle(0, 1);
        b.step(1, 50);
    }

    /** "CALL: if the answer to that call of that traveller is kept: ANSWER again". */
    private static void sameCall(Bench b) {
        fromOne(b, "int i=0;while(true){i=f.up(1);print i;}");
        for (int i = 0; i < 3; i++) {
            b.x.trouble(1, 0, 1);
        }
        int kept = b.x.host(0, 4);
        for (int i = 0; i < 4; i++) {
            b.due("CALL", b.x.pass(1, 0), 8);
            b.due("ANSWER", b.said(0, 1, i), "9 0 1 0 1");
            b.due("done once", b.x.thing(0, 0, 0), 1);
            b.due("kept once", b.x.host(0, 4), kept + 1);
        }
        b.x.pass(0, 1);
        b.step(1, 50);
        // ANSWERs of call 1 to one that is WAITING for call 2
        b.x.pass(0, 1);
        b.due("WAITING", b.x.traveller(0, 1, 0), 6);
        b.due("LINES", b.x.traveller(0, 1, 4), 1);
        b.x.pass(1, 0);
        b.due("done", b.x.thing(0, 0, 0), 2);
        b.due("the answer of 2", b.said(0, 1, 2), "9 0 2 0 2");
        b.passAll(0, 1);
        b.due("ACTING", b.x.traveller(0, 1, 0), 0);
        b.due("what it got", b.x.value(0, 1, 0, 2), 2);
    }

    /** "if it is older than the one that is kept: nothing; else it is done, the answer is kept in place of the one before". */
    private static void olderCall(Bench b) {
        fromOne(b, "f.up(1);f.up(2);f.up(4);while(true)1;");
        b.x.trouble(1, 0, 1);
        b.x.trouble(1, 0, 1);
        b.x.pass(1, 0);
        b.x.pass(0, 1);
        b.step(1, 50);
        // on the line: two CALLs of 1, one of 2
        b.due("CALL 1 while 1 is kept", b.only(1, 0, 8, 1), true);
        b.due("ANSWER again", b.said(0, 1, 0), "9 0 1 0 1");
        b.x.trouble(0, 1, 0);
        b.due("CALL 2", b.only(1, 0, 8, 2), true);
        int kept = b.x.host(0, 4);
        b.due("ANSWER", b.said(0, 1, 0), "9 0 2 0 3");
        b.due("CALL 1 while 2 is kept", b.only(1, 0, 8, 1), true);
        b.due("nothing", b.said(0, 1, 1), "-");
        b.due("not kept", b.x.host(0, 4), kept);
        b.due("not done", b.x.thing(0, 0, 0), 3);
        b.x.pass(0, 1);
        b.step(1, 50);
        b.x.trouble(1, 0, 1);
        b.x.pass(1, 0);
        b.due("CALL 3", b.said(0, 1, 0), "9 0 3 0 7");
        b.x.pass(1, 0);
        b.due("CALL 3 again", b.said(0, 1, 1), "9 0 3 0 7");
        b.due("done once", b.x.thing(0, 0, 0), 7);
    }

    /** The answers of one traveller are not another one's. */
    private static void perTraveller(Bench b) {
        b.begin(C + "main{far C f=pin new C;twin;go 1;f.up(10+self);f.up(20+self);while(true)1;}");
        b.step(0, 50);
        b.settle(0, 1);
        b.step(1, 50);
        b.due("two CALLs", b.x.count(3), 2);
        b.x.pass(1, 0);
        b.x.pass(1, 0);
        b.due("of 0", b.said(0, 1, 0), "9 0 1 0 10");
        b.due("of 1", b.said(0, 1, 1), "9 1 1 0 21");
        b.x.trouble(0, 1, 2);
        b.passAll(0, 1);
        b.step(1, 50);
        b.x.pass(1, 0);
        b.x.pass(1, 0);
        b.due("of 0", b.said(0, 1, 0), "9 0 2 0 41");
        b.due("of 1", b.said(0, 1, 1), "9 1 2 0 62");
    }

    /** "ANSWER: if the traveller is WAITING for that call: it goes on behind its FAR with the number (or that number is told there), ACTING." */
    private static void answers(Bench b) {
        fromOne(b, "int i=0;try{i=f.up(5)+f.up(6);}catch(e){i=e;}while(true)1;");
        int place = b.x.frame(0, 1, 0, 1);
        b.due("at its FAR", b.x.instruction(0, place, 0), 12);
        b.due("with all that takes", b.x.frame(0, 1, 0, 3), 2);
        b.x.pass(1, 0);
        b.x.trouble(0, 1, 1);
        b.x.pass(0, 1);
        b.due("behind its FAR", b.x.frame(0, 1, 0, 1), place + 1);
        b.due("with the number alone", b.x.frame(0, 1, 0, 3), 1);
        b.due("the number", b.x.value(0, 1, 0, 3), 5);
        // again, to one that is ACTING
        b.x.pass(0, 1);
        b.due("behind its FAR", b.x.frame(0, 1, 0, 1), place + 1);
        b.due("height", b.x.frame(0, 1, 0, 3), 1);
        // told: the HANDLER of FAR's own place, with that number alone on the stack
        b.begin(C.replace("return v;", "raise v;") + "main{far C f=pin new C;go 1;int i=0;try{i=1+(2+f.up(5));}catch(e){print e;}while(true)1;}");
        b.step(0, 50);
        b.settle(0, 1);
        b.step(1, 50);
        b.x.pass(1, 0);
        b.due("told", b.said(0, 1, 0), "9 0 1 1 5");
        b.x.pass(0, 1);
        b.due("ACTING", b.x.traveller(0, 1, 0), 0);
        b.due("the HANDLER", b.x.instruction(0, b.x.frame(0, 1, 0, 1), 0), 3);
        b.due("alone", b.x.frame(0, 1, 0, 3), 1);
        b.due("that number", b.x.value(0, 1, 0, 3), 5);
        b.step(1, 9);
        b.due("line", b.x.line(0, 1, 0), 5);
        // an ANSWER to a traveller that is not here
        b.begin(C + "main{far C f=pin new C;go 1;f.up(1);go 2;while(true)1;}");
        b.step(0, 50);
        b.settle(0, 1);
        b.step(1, 50);
        b.x.pass(1, 0);
        b.x.trouble(0, 1, 1);
        b.x.pass(0, 1);
        b.step(1, 50);
        b.settle(1, 2);
        b.due("not here", b.x.traveller(0, 1, 0), -1);
        b.due("ANSWER", b.x.pass(0, 1), 9);
        b.due("ACTING at 2", b.x.traveller(0, 2, 0), 0);
        b.due("not here", b.x.traveller(0, 1, 0), -1);
    }

    /** "WAITING: CALL", to where the THING is. */
    private static void waitingTicks(Bench b) {
        b.begin(C + "main{go 3;far C f=pin new C;go 1;f.up(7);while(true)1;}");
        b.step(0, 50);
        b.settle(0, 3);
        b.step(3, 50);
        b.settle(3, 1);
        b.step(1, 50);
        int kept = b.x.host(1, 4);
        b.x.tick(1);
        b.x.tick(1);
        b.due("three CALLs to 3", b.passAll(1, 3), "888");
        b.due("not kept", b.x.host(1, 4), kept);
        b.due("CALLS", b.x.traveller(0, 1, 3), 1);
        b.due("done once", b.x.thing(3, 0, 0), 7);
        b.due("three ANSWERs", b.passAll(3, 1), "999");
        b.x.tick(1);
        b.due("ACTING: none", b.x.count(3), 0);
    }

    /** What a call changed and its answer are put by together. */
    private static void keptWithTheHost(Bench b) {
        fromOne(b, "print f.up(1);print f.up(2);while(true)1;");
        b.x.trouble(1, 0, 1);
        b.x.pass(1, 0);
        b.x.power(0, 1);
        b.due("put by", b.x.thing(0, 0, 0), 1);
        b.due("lost", b.x.pass(1, 0), 8);
        b.x.power(0, 2);
        b.x.tick(1);
        b.x.pass(1, 0);
        b.due("ANSWER again", b.said(0, 1, 1), "9 0 1 0 1");
        b.due("done once", b.x.thing(0, 0, 0), 1);
        // done at once it is not put by
        b.begin(C + "main{far C f=pin new C;int i=0;while(true)i=f.up(1);}");
        b.step(0, 5);
        b.x.power(0, 0);
        b.step(0, 40);
        b.due("changed", b.x.thing(0, 0, 0) > 3, true);
        b.x.power(0, 1);
        b.due("as it was put by", b.x.thing(0, 0, 0), 0);
        b.due("THINGS", b.x.host(0, 3), 1);
        b.x.power(0, 2);
        b.step(0, 4 + 4);
        b.due("from there on", b.x.thing(0, 0, 0) >= 1, true);
    }

    /** Promise 25: "Field k of the OBJECT that is THING n of host h, if that is a number; 0 else." */
    private static void fields(Bench b) {
        b.begin("class C{int a;bool w;C n;int[] r;far C f;int z;}main{C c=new C;c.a=-7;c.w=true;c.n=c;c.r=new int[2];c.r[0]=9;c.r[1]=9;c.f=pin c;c.z=8;pin c;while(true)1;}");
        b.step(0, 100);
        int[] want = {-7, 1, 0, 0, 0, 8};
        for (int k = -1; k <= 6; k++) {
            b.due("field " + k, b.x.thing(0, 1, k), k >= 0 && k < 6 ? want[k] : 0);
        }
        b.due("far above", b.x.thing(0, 1, Integer.MAX_VALUE), 0);
        b.due("far below", b.x.thing(0, 1, Integer.MIN_VALUE), 0);
        b.due("pinned ahead of that", b.x.thing(0, 0, 5), 0);
        for (int n : new int[] {-1, 2, 19, 20, Integer.MAX_VALUE, Integer.MIN_VALUE}) {
            b.due("thing " + n, b.x.thing(0, n, 0), 0);
        }
        for (int h : new int[] {-1, 1, 4, 5, Integer.MAX_VALUE, Integer.MIN_VALUE}) {
            b.due("host " + h, b.x.thing(h, 1, 0), 0);
        }
    }

    /** "(of a DOWN host: of what was put by)": with the program that the THING is of. */
    private static void fieldsOfADownHost(Bench b) {
        b.fresh();
        b.read("main{}");
        b.read("class A{}class C{C n;int v;bool w;}main{C c=new C;c.v=5;c.w=true;c.n=c;pin c;while(true)1;}");
        b.x.give(0, 1);
        b.start(1, 0);
        b.step(0, 20);
        b.x.power(0, 0);
        for (int down = 0; down < 3; down++) {
            b.due("a reference", b.x.thing(0, 0, 0), 0);
            b.due("a number", b.x.thing(0, 0, 1), 5);
            b.due("a bool", b.x.thing(0, 0, 2), 1);
            b.due("none", b.x.thing(0, 0, 3), 0);
            b.x.power(0, down == 0 ? 1 : 2);
        }
    }

    /** A THING that was not put by is gone with the host's fall; the next one has its number, and nothing else of it. */
    private static void numbersUsedAgain(Bench b) {
        b.begin("class C{int v;C n;int[] r;int sum(){if(n==null)return v;return v+10*n.sum();}}main{int i=0;if(self==0){while(i<20)i=i+1;}C c=new C;"
            + "c.v=5+self*2;if(self==0){c.n=new C;c.n.v=8;c.r=new int[30];}far C f=pin c;print f.sum();while(true)1;}");
        b.step(0, 400);
        b.due("the first", b.x.thing(0, 0, 0), 5);
        b.due("line", b.x.line(0, 0, 0), 85);
        b.x.power(0, 1);
        b.x.power(0, 2);
        b.due("none", b.x.host(0, 3), 0);
        b.due("none", b.x.thing(0, 0, 0), 0);
        b.due("start", b.start(0, 0), 1);
        b.step(0, 40);
        b.due("THINGS", b.x.host(0, 3), 1);
        b.due("the next", b.x.thing(0, 0, 0), 7);
        b.due("alone", b.x.line(1, 0, 0), 7);
        b.x.power(0, 0);
        b.x.power(0, 1);
        b.due("put by", b.x.thing(0, 0, 0), 7);
    }
}
