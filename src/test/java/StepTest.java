/** Promises 9, 10, 19 to 24: travellers that run at one host. */
public final class StepTest {
    public static void main(String[] args) {
        Bench b = new Bench();
        starts(b);
        reckoning(b);
        told(b);
        handlers(b);
        room(b);
        board(b);
        lines(b);
        twins(b);
        frames(b);
        cells(b);
        steps(b);
        b.end();
    }

    private static void starts(Bench b) {
        b.fresh();
        b.due("start", b.start(0, 0), Bench.ILLEGAL_ARGUMENT);
        b.read("main{while(true)1;}");
        b.due("start", b.start(0, 5), Bench.ILLEGAL_ARGUMENT);
        b.due("start", b.start(0, -1), Bench.ILLEGAL_ARGUMENT);
        b.due("start", b.start(1, 0), Bench.ILLEGAL_ARGUMENT);
        b.due("start", b.start(-1, 0), Bench.ILLEGAL_ARGUMENT);
        b.due("start without the program", b.start(0, 3), Bench.ILLEGAL_STATE);
        b.due("give", b.x.give(3, 0), true);
        b.due("kept", b.x.host(3, 4), 1);
        b.x.power(3, 1);
        b.due("start at a DOWN host", b.start(0, 3), Bench.ILLEGAL_STATE);
        b.due("start, argument first", b.start(1, 3), Bench.ILLEGAL_ARGUMENT);
        b.x.power(3, 2);
        for (int t = 0; t < 8; t++) {
            b.due("start", b.start(0, 3), t);
            b.due("at", b.x.at(3, t), t);
            b.due("kept", b.x.host(3, 4), t + 2);
        }
        b.due("at", b.x.at(3, 8), -1);
        b.due("at", b.x.at(3, -1), -1);
        b.due("at", b.x.at(5, 0), -1);
        b.due("a ninth", b.start(0, 3), Bench.ILLEGAL_STATE);
        b.due("ever", b.x.count(2), 8);
        b.due("travellers", b.x.host(3, 1), 8);
        b.due("step", b.step(3, 3), 24);
        b.due("step of none", b.step(2, 3), 0);
        b.due("step", b.step(5, 3), Bench.ILLEGAL_ARGUMENT);
        b.due("step", b.step(-1, 3), Bench.ILLEGAL_ARGUMENT);
        b.due("step", b.step(3, -1), Bench.ILLEGAL_ARGUMENT);
        b.due("step", b.step(3, 501), Bench.ILLEGAL_ARGUMENT);
        b.due("step", b.step(3, 0), 0);
        b.due("step", b.step(3, 500), 4000);
        b.x.power(3, 1);
        b.due("step", b.step(3, 1), Bench.ILLEGAL_STATE);
        b.due("step, argument first", b.step(3, 501), Bench.ILLEGAL_ARGUMENT);
        b.begin("main{return 1;}");
        for (int t = 1; t < 30; t++) {
            b.step(0, 5);
            b.due("start", b.start(0, 0), t);
        }
        b.step(0, 5);
        b.due("no number left", b.start(0, 0), Bench.ILLEGAL_STATE);
        b.due("travellers", b.x.host(0, 1), 30);
        b.due("none", b.x.traveller(30, 0, 0), -1);
        b.due("none", b.x.traveller(-1, 0, 0), -1);
        b.due("none", b.x.traveller(0, 1, 0), -1);
        b.due("none", b.x.traveller(0, -1, 0), -1);
        b.due("none", b.x.traveller(0, 5, 0), -1);
        int[] want = {7, 2, 0, 0, 0, 1, 1, -1, 0, 0, 0};
        for (int what = 0; what < want.length; what++) {
            b.due("traveller " + what, b.x.traveller(29, 0, what), want[what]);
        }
        b.due("traveller 11", b.x.traveller(29, 0, 11), -1);
        b.due("traveller -1", b.x.traveller(29, 0, -1), -1);
    }

    private static void reckoning(Bench b) {
        b.answers("main{return 7/2*10+7%4-1;}", 32);
        b.answers("main{return -7/2*10+-7%4;}", -33);
        b.answers("main{return 2147483647+1;}", Integer.MIN_VALUE);
        b.answers("main{return (-2147483647-1)/-1;}", Integer.MIN_VALUE);
        b.answers("main{return (-2147483647-1)%-1;}", 0);
        b.answers("main{return 65536*65536+100000*100000;}", 1410065408);
        b.answers("main{return -(-2147483647-1);}", Integer.MIN_VALUE);
        b.answers("main{}", 0);
        b.answers("main{if(1<2&&2<=2&&3>2&&2>=2&&1==1&&1!=2)return 5;}", 5);
        b.answers("main{if(2<1||3<=2||2>3||1>=2||1==2||1!=1)return 5;else return 6;}", 6);
        b.answers("main{bool a=!(1<2);if(a!=true)return 3;}", 3);
        b.answers("main{int i=0;int s=0;while(i<10){i=i+1;if(i%2==0)s=s+i;}return s;}", 30);
        b.answers("main{{int a=5;}int c=0;while(c<3){int d=c;c=d+1;}return c;}", 3);
        b.answers("class C{bool t;int p(){print 1;return 1;}}main{C c=new C;if(c.t&&c.p()==1||c.p()==2||true)return 9;}", 9, 1);
        b.answers("class C{int f(int n){if(n<2)return n;return f(n-1)+f(n-2);}}main{return new C.f(10);}", 55);
        b.answers("class C{int a;C n;int s(int x,int y,int z,int q){a=x+10*y+100*z+1000*q;return a;}}"
            + "main{C c=new C;c.n=new C;c.n.s(1,2,3,4);return c.n.a+c.a;}", 4321);
        b.answers("class C{C m(){}bool q(){}int[] r(){}far C f(){}int i(){}}"
            + "main{C c=new C;if(c.m()==null&&!c.q()&&c.r()==null&&c.f()==null&&c.i()==0)return 4;}", 4);
        b.answers("class C{int a;bool w;C n;int[] r;far C f;}"
            + "main{C c=new C;if(c.a==0&&!c.w&&c.n==null&&c.r==null&&c.f==null)return 4;}", 4);
        b.answers("class C{}main{C c=new C;C d=c;int[] r=new int[2];if(c==d&&c!=new C&&r==r&&r!=new int[2])return 1;}", 1);
        b.answers("main{int[] r=new int[3];r[0]=4;r[2]=r[0]*r.length;return r[2]+r[1];}", 12);
        b.answers("main{return here*10+self;}", 0);
        b.answers("main{if(go here)return 3;}", 3);
    }

    private static void told(Bench b) {
        b.fails("class C{int v;}main{C c=null;return c.v;}", -1);
        b.fails("class C{int v;}main{C c=null;c.v=1;}", -1);
        b.fails("main{int[] r=null;return r[0];}", -1);
        b.fails("main{int[] r=null;r[0]=1;}", -1);
        b.fails("main{int[] r=null;return r.length;}", -1);
        b.fails("class C{int m(){}}main{C c=null;c.m();}", -1);
        b.fails("class C{int m(){}}main{far C c=null;c.m();}", -1);
        b.fails("class C{}main{C c=null;pin c;}", -1);
        b.fails("main{int[] r=new int[2];return r[2];}", -2);
        b.fails("main{int[] r=new int[2];return r[-1];}", -2);
        b.fails("main{int[] r=new int[2];r[2]=1;}", -2);
        b.fails("main{int[] r=new int[0];r[0]=1;}", -2);
        b.fails("main{new int[-1];}", -2);
        b.fails("main{int[] r=null;r[1/0]=1;}", -3);
        b.fails("main{return 1/0;}", -3);
        b.fails("main{return 1%0;}", -3);
        b.fails("main{new int[101];}", -4);
        b.answers("main{return new int[100].length;}", 100);
        b.fails("main{go 5;}", -5);
        b.fails("main{go -1;}", -5);
        b.fails("main{print 1;raise 77;print 2;}", 77, 1);
        b.fails("main{raise 0;}", 0);
        b.due("frames stay", b.x.traveller(0, 0, 5), 1);
        b.due("steps", b.x.traveller(0, 0, 1), 2);
    }

    private static void handlers(Bench b) {
        b.answers("main{try{raise 5;}catch(e){return e;}}", 5);
        b.answers("main{try{try{raise 5;}catch(e){raise e+1;}}catch(f){return f;}}", 6);
        b.answers("main{try{print 1;}catch(e){print 2;}print 3;}", 0, 1, 3);
        b.answers("class C{int m(){print 1;raise 8;}}main{try{print new C.m();}catch(e){print e;}return 2;}", 2, 1, 8);
        b.answers("class C{int m(int k){if(k==0)raise 9;return m(k-1);}}main{try{new C.m(5);}catch(e){return e;}}", 9);
        b.answers("class C{int m(int k){try{if(k==0)raise 9;return m(k-1);}catch(e){return e+k;}}}main{return new C.m(5);}", 9);
        b.answers("class C{int m(){return 1/0;}}main{int i=4;try{i=i+10*(i+new C.m());}catch(e){return i+e;}}", 1);
        b.answers("main{int[] r=null;try{r[0]=1;}catch(e){return e;}}", -1);
        b.fails("main{try{raise 1;}catch(e){raise 2;}}", 2);
        b.fails("class C{int m(){try{return 1;}catch(e){}}}main{new C.m();raise 3;}", 3);
    }

    private static void room(Bench b) {
        b.answers("class C{int m(int k){return 1+m(k+1);}}main{try{new C.m(0);}catch(e){return e;}}", -4);
        // twelve frames with main
        b.answers("class C{int m(int k){print k;return 1+m(k+1);}}main{try{new C.m(1);}catch(e){return e;}}", -4,
            1, 2, 3, 4, 5, 6, 7, 8, 9, 10, 11);
        b.answers("class C{int m(int k){if(k==11)return 0;return 1+m(k+1);}}main{return new C.m(1);}", 10);
        // null is asked first
        b.fails("class C{C n;int m(int k){if(k==11)return n.m(1);return m(k+1);}}main{return new C.m(1);}", -1);
        String list = "class C{C n;int[] r;}main{C c=null;int i=0;try{while(true){C d=new C;d.n=c;c=d;i=i+1;}}catch(e){return e*100-i;}}";
        b.answers(list, -440);
        b.due("reached", b.x.traveller(0, 0, 10), 40);
        // what can't be reached any more does not count
        b.answers("class C{}main{int i=0;while(i<300){C c=new C;i=i+1;}return i;}", 300);
        b.answers("main{int i=0;while(i<50){int[] r=new int[100];i=i+1;}return i;}", 50);
        b.answers("class C{int[] r;C n;}main{C c=null;int i=0;try{while(true){C d=new C;d.r=new int[28];d.n=c;c=d;i=i+1;}}"
            + "catch(e){return e*100-i;}}", -410);
        b.answers("main{int[] a=new int[100];int[] c=new int[100];int[] d=new int[100];int[] f=new int[0];"
            + "try{f=new int[1];}catch(e){a=null;f=new int[100];return e;}}", -4);
        // what lies on stacks counts
        b.answers("class C{int m(int[] a,int[] c,int[] d,int[] e){return a.length;}}"
            + "main{try{new C.m(new int[100],new int[100],new int[100],new int[1]);}catch(e){return e;}}", -4);
        b.answers("class C{int m(int[] a,int[] c,int[] d,int[] e){return a.length;}}"
            + "main{return new C.m(new int[100],new int[100],new int[100],new int[0]);}", 100);
        // what is new is 0 and null, whatever lay there before
        b.answers("main{int i=0;while(i<20){int[] r=new int[100];if(r[5]!=0)return 1;r[5]=7;i=i+1;}return 2;}", 2);
        b.answers("class C{int v;C n;}main{int i=0;while(i<99){C c=new C;if(c.v!=0||c.n!=null)return 1;c.v=7;c.n=c;i=i+1;}return 2;}", 2);
        b.answers("class C{int m(int k){int z=0;if(k>0){int y=5;}else{{int x=1;}}return y2(k);}int y2(int k){int a=1;return k;}}"
            + "main{C c=new C;return c.m(1)+c.m(0);}", 1);
        // cycles
        b.answers("class C{C n;int v;}main{int i=0;while(i<200){C c=new C;C d=new C;c.n=d;d.n=c;d.v=i;i=c.n.v+1;}return i;}", 200);
        // twelve fields each
        StringBuilder fields = new StringBuilder();
        for (int i = 0; i < 11; i++) {
            fields.append("int f").append(i).append(";");
        }
        b.answers("class C{" + fields + "C n;}main{C c=null;int i=0;try{while(true){C d=new C;d.n=c;c=d;i=i+1;}}catch(e){return e*100-i;}}",
            -425);
    }

    private static void board(Bench b) {
        b.answers("main{put 3,4;put -5,6;put 3,get 3+get -5+get 9;return get 3;}", 10);
        b.due("keys", b.x.host(0, 2), 2);
        b.due("board", b.x.board(0, 3), 10);
        b.due("board", b.x.board(0, -5), 6);
        b.due("board", b.x.board(0, 4), 0);
        b.due("board", b.x.board(1, 3), 0);
        b.due("board", b.x.board(5, 3), 0);
        b.due("board", b.x.board(-1, 3), 0);
        b.answers("main{int i=0;try{while(true){put i,i+1;i=i+1;}}catch(e){put 7,70;put 19,0;return e*100-i;}}", -420);
        b.due("keys", b.x.host(0, 2), 20);
        b.due("board", b.x.board(0, 7), 70);
        b.due("board", b.x.board(0, 19), 0);
        b.due("board", b.x.board(0, 18), 19);
    }

    private static void lines(Bench b) {
        b.begin("main{int i=0;while(true){print i*i;i=i+1;}}");
        for (int i = 0; i < 4; i++) {
            b.step(0, 500);
        }
        int lines = b.x.traveller(0, 0, 4);
        b.due("lines", lines > 100, true);
        b.due("line", b.x.line(0, 0, 59), 59 * 59);
        b.due("line", b.x.line(0, 0, 60), 0);
        b.due("line", b.x.line(0, 0, -1), 0);
        b.due("line", b.x.line(1, 0, 1), 0);
        b.due("line", b.x.line(0, 1, 1), 0);
    }

    private static void twins(Bench b) {
        b.begin("main{print 5;int t=twin;print t;print self;if(t==0)return 1;return 2;}");
        b.due("the new one makes steps, too, behind its TWIN", b.step(0, 500), 14 + 11);
        b.due("travellers", b.x.host(0, 1), 2);
        b.due("at", b.x.at(0, 1), 1);
        b.due("old one's", b.x.line(0, 0, 1), 1);
        b.due("new one's", b.x.line(1, 0, 1), 0);
        b.due("lines too", b.x.line(1, 0, 0), 5);
        b.due("self", b.x.line(1, 0, 2), 1);
        b.due("end", b.x.traveller(0, 0, 6), 2);
        b.due("end", b.x.traveller(1, 0, 6), 1);
        b.due("steps", b.x.traveller(0, 0, 1), 14);
        b.due("steps", b.x.traveller(1, 0, 1), 3 + 11);
        b.due("ever", b.x.count(2), 2);
        b.due("kept", b.x.host(0, 4), 2);
        b.begin("main{int i=0;try{while(i<20){if(twin==0)while(true)1;i=i+1;}}catch(e){return e*100-i;}}");
        b.step(0, 500);
        b.due("eight", b.x.traveller(0, 0, 6), -407);
        b.due("travellers", b.x.host(0, 1), 8);
        b.begin("main{int i=0;try{while(true){if(twin==0)return 1;i=i+1;}}catch(e){return e*100-i;}}");
        for (int i = 0; i < 100; i++) {
            b.step(0, 9);
        }
        b.due("thirty", b.x.traveller(0, 0, 6), -429);
        b.due("ever", b.x.count(2), 30);
        // nothing of the heap is shared
        b.begin("class C{int v;}main{C c=new C;int t=twin;c.v=c.v+1+t;return c.v;}");
        b.step(0, 500);
        b.due("own heap", b.x.traveller(0, 0, 6), 2);
        b.due("own heap", b.x.traveller(1, 0, 6), 1);
    }

    private static void frames(Bench b) {
        b.begin("class C{int v;C n;int m(C q,int k){int z=k;return z+(1+v);}}"
            + "main{int a=5;C c=new C;c.v=7;c.n=c;far C f=pin c;bool t=true;print 3+c.m(c.n,a*2);}");
        // a=5 two, c two, v three, n three, f three, t two, then 3, c, c n, a 2 *, CALL
        b.step(0, 2 + 2 + 3 + 3 + 3 + 2 + 1 + 1 + 2 + 3);
        b.due("frames", b.x.traveller(0, 0, 5), 1);
        int call = b.x.frame(0, 0, 0, 1);
        b.due("at CALL", b.x.instruction(0, call, 0), 11);
        b.due("stack", b.x.frame(0, 0, 0, 3), 4);
        int[] want = {5, 0, 0, 1, 3, 0, 0, 10};
        for (int k = 0; k < want.length; k++) {
            b.due("value " + k, b.x.value(0, 0, 0, k), want[k]);
        }
        b.due("value", b.x.value(0, 0, 0, 8), 0);
        b.step(0, 1);
        b.due("frames", b.x.traveller(0, 0, 5), 2);
        b.due("method", b.x.frame(0, 0, 0, 0), 1);
        b.due("behind CALL", b.x.frame(0, 0, 0, 1), call + 1);
        b.due("slots", b.x.frame(0, 0, 0, 2), 4);
        b.due("stack", b.x.frame(0, 0, 0, 3), 1);
        b.due("method", b.x.frame(0, 0, 1, 0), 0);
        b.due("place", b.x.frame(0, 0, 1, 1), 0);
        b.due("slots", b.x.frame(0, 0, 1, 2), 4);
        b.due("stack", b.x.frame(0, 0, 1, 3), 0);
        b.due("frame 4", b.x.frame(0, 0, 1, 4), -1);
        b.due("frame -1", b.x.frame(0, 0, 1, -1), -1);
        b.due("frame", b.x.frame(0, 0, 2, 0), -1);
        b.due("frame", b.x.frame(0, 0, -1, 0), -1);
        b.due("frame", b.x.frame(1, 0, 0, 0), -1);
        b.due("frame", b.x.frame(0, 1, 0, 0), -1);
        int[] inner = {0, 0, 10, 0, 0};
        for (int k = 0; k < inner.length; k++) {
            b.due("value " + k, b.x.value(0, 0, 1, k), inner[k]);
        }
        b.step(0, 6);
        b.due("stack", b.x.frame(0, 0, 1, 3), 3);
        b.due("value", b.x.value(0, 0, 1, 4), 10);
        b.due("value", b.x.value(0, 0, 1, 6), 7);
        b.due("value", b.x.value(0, 0, 2, 0), 0);
        b.due("value", b.x.value(0, 0, 0, -1), 0);
        b.due("value", b.x.value(2, 0, 0, 0), 0);
        b.due("value", b.x.value(0, 3, 0, 0), 0);
        b.step(0, 500);
        b.due("line", b.x.line(0, 0, 0), 21);
        // null is told as NONE
        b.begin("class C{}main{C c=null;far C f=null;int[] r=null;bool i=c==null;}");
        b.step(0, 7);
        for (int k = 0; k < 3; k++) {
            b.due("null", b.x.value(0, 0, 0, k), -1);
        }
        b.due("false", b.x.value(0, 0, 0, 3), 0);
        b.step(0, 1);
        b.due("null on the stack", b.x.value(0, 0, 0, 5), -1);
    }

    private static void cells(Bench b) {
        b.begin("class A{int v;B b;bool w;far A f;}class B{int[] r;A a;}"
            + "main{int[] z=new int[3];A x=new A;A a=new A;x=null;a.v=-8;a.b=new B;a.b.r=new int[2];a.b.r[1]=9;a.b.a=a;"
            + "a.w=true;a.f=pin a;z=a.b.r;while(true)1;}");
        b.step(0, 100);
        b.due("reached", b.x.traveller(0, 0, 10), 3);
        // slots: z the ROW (0), a (1), then B (2)
        b.due("z", b.x.value(0, 0, 0, 0), 0);
        b.due("a", b.x.value(0, 0, 0, 2), 1);
        int[][] want = {{0, -2, 2}, {0, -1, -2}, {0, -3, 0}, {0, 0, 0}, {0, 1, 9}, {0, 2, 0},
            {1, -1, 0}, {1, -2, 4}, {1, 0, -8}, {1, 1, 2}, {1, 2, 1}, {1, 3, 0}, {1, 4, 0},
            {2, -1, 1}, {2, -2, 2}, {2, 0, 0}, {2, 1, 1}, {3, 0, 0}, {3, -2, 0}, {-1, -2, 0}};
        for (int[] w : want) {
            b.due("cell " + w[0] + " " + w[1], b.x.cell(0, 0, w[0], w[1]), w[2]);
        }
        b.due("cell", b.x.cell(1, 0, 0, -2), 0);
        b.due("cell", b.x.cell(0, 1, 0, -2), 0);
        b.due("cell", b.x.cell(0, 7, 0, -2), 0);
        // asked first, when others that can't be reached any more lie about
        b.begin("class C{int v;}main{new C;new C;C c=new C;c.v=4;while(true)1;}");
        b.step(0, 30);
        b.due("cell", b.x.cell(0, 0, 0, 0), 4);
        b.due("cell", b.x.cell(0, 0, 1, -2), 0);
        b.begin("class C{int v;}main{new C;new C;C c=new C;c.v=4;while(true)1;}");
        b.step(0, 30);
        b.due("value", b.x.value(0, 0, 0, 0), 0);
        b.begin("class C{int v;}main{new C;new C;C c=new C;c.v=4;while(true)1;}");
        b.step(0, 30);
        b.due("reached", b.x.traveller(0, 0, 10), 1);
        b.begin("class A{int v;B b;bool w;}class B{}main{A a=new A;a.v=-8;a.b=new B;a.w=true;pin a;while(true)1;}");
        b.step(0, 30);
        b.due("thing", b.x.thing(0, 0, 0), -8);
        b.due("thing's reference", b.x.thing(0, 0, 1), 0);
        b.due("thing's bool", b.x.thing(0, 0, 2), 1);
    }

    private static void steps(Bench b) {
        b.begin("main{while(true)1;}");
        b.due("step", b.step(0, 7), 7);
        b.due("steps", b.x.traveller(0, 0, 1), 7);
        b.due("step", b.step(0, 500), 500);
        b.due("steps", b.x.traveller(0, 0, 1), 507);
        b.begin("main{print 1;raise 2;}");
        b.due("step", b.step(0, 500), 4);
        b.due("step", b.step(0, 500), 0);
        b.begin("class C{int m(){int i=0;while(i<20)i=i+1;return i;}}main{far C f=pin new C;return f.m();}");
        b.due("a call that is done at once is one step", b.step(0, 500), 6);
        b.due("end", b.x.traveller(0, 0, 6), 20);
        b.due("calls", b.x.traveller(0, 0, 3), 0);
    }
}
