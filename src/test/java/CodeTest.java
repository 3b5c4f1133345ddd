/** Promises 5, 6, 7: what texts become. */
public final class CodeTest {
    public static void main(String[] args) {
        Bench b = new Bench();
        expressions(b);
        signs(b);
        nulls(b);
        statements(b);
        methods(b);
        reaches(b);
        handlers(b);
        ways(b);
        heights(b);
        sums(b);
        b.end();
    }

    private static final String END = "; NUMBER; ANSWER";

    private static void expressions(Bench b) {
        b.code("main{}", "NUMBER; ANSWER");
        b.code("main{print 7;return 3;}", "NUMBER 7; PRINT; NUMBER 3; ANSWER" + END);
        b.code("main{bool a=true;bool c=false;}", "NUMBER 1; STORE; NUMBER; STORE 1" + END);
        b.code("main{int a=here+self*twin;}", "HERE; SELF; TWIN; SIGN 2; SIGN; STORE" + END);
        b.code("main{int[] a=new int[4];a[1]=a[0]+a.length;}",
            "NUMBER 4; ROW; STORE; LOAD; NUMBER 1; LOAD; NUMBER; ELEMENT; LOAD; LENGTH; SIGN; SETELEMENT" + END);
        b.code("class A{}class B{int u;B n;}main{B b=new B;b.n.n=b;print b.n.u;(b).u=2;new B.u=3;}",
            "NEW 1; STORE; LOAD; FIELD 1; LOAD; SETFIELD 1; LOAD; FIELD 1; FIELD; PRINT; LOAD; NUMBER 2; SETFIELD; NEW 1; "
            + "NUMBER 3; SETFIELD" + END);
        b.code("main{new int[3][2]=1;print new int[5].length;}",
            "NUMBER 3; ROW; NUMBER 2; NUMBER 1; SETELEMENT; NUMBER 5; ROW; LENGTH; PRINT" + END);
        b.code("main{int a=-get -4;bool c=!go 1;}", "NUMBER 4; MINUS; GET; MINUS; STORE; NUMBER 1; GO; NOT; STORE 1" + END);
        b.code("class C{}main{far C f=pin new C;}", "NEW; PIN; STORE" + END);
        b.code("main{((1));}", "NUMBER 1; DROP" + END);
    }

    private static void signs(Bench b) {
        String[] all = {"+", "-", "*", "/", "%", "<", "<=", ">", ">=", "==", "!="};
        for (int i = 0; i < all.length; i++) {
            b.code("main{1" + all[i] + "2;}", "NUMBER 1; NUMBER 2; SIGN" + (i == 0 ? "" : " " + i) + "; DROP" + END);
        }
        b.code("main{1-2-3;}", "NUMBER 1; NUMBER 2; SIGN 1; NUMBER 3; SIGN 1; DROP" + END);
        b.code("main{1-2*3;}", "NUMBER 1; NUMBER 2; NUMBER 3; SIGN 2; SIGN 1; DROP" + END);
        b.code("main{1*2-3;}", "NUMBER 1; NUMBER 2; SIGN 2; NUMBER 3; SIGN 1; DROP" + END);
        b.code("main{1<2==3>4;}", "NUMBER 1; NUMBER 2; SIGN 5; NUMBER 3; NUMBER 4; SIGN 7; SIGN 9; DROP" + END);
        b.code("main{true&&false;}", "NUMBER 1; UNLESS 4; NUMBER; JUMP 5; NUMBER; DROP" + END);
        b.code("main{true||false;}", "NUMBER 1; UNLESS 4; NUMBER 1; JUMP 5; NUMBER; DROP" + END);
        b.code("main{true||false&&true;}",
            "NUMBER 1; UNLESS 4; NUMBER 1; JUMP 9; NUMBER; UNLESS 8; NUMBER 1; JUMP 9; NUMBER; DROP" + END);
        b.code("main{true&&true&&false;}",
            "NUMBER 1; UNLESS 4; NUMBER 1; JUMP 5; NUMBER; UNLESS 8; NUMBER; JUMP 9; NUMBER; DROP" + END);
        b.code("main{-1*-2;}", "NUMBER 1; MINUS; NUMBER 2; MINUS; SIGN 2; DROP" + END);
    }

    private static void nulls(Bench b) {
        b.code("main{null;}", "NULL 1; DROP" + END);
        b.code("class C{}main{C c=null;far C f=null;int[] r=null;f=(null);}",
            "NULL 1; STORE; NULL 2; STORE 1; NULL 1; STORE 2; NULL 2; STORE 1" + END);
        b.code("class C{}main{C c=null;far C f=null;c==null;null==c;f!=null;null!=f;c!=c;f==f;}",
            "NULL 1; STORE; NULL 2; STORE 1; LOAD; NULL 1; SAME 1; DROP; NULL 1; LOAD; SAME 1; DROP; LOAD 1; NULL 2; SAME 2 1; "
            + "DROP; NULL 2; LOAD 1; SAME 2 1; DROP; LOAD; LOAD; SAME 1 1; DROP; LOAD 1; LOAD 1; SAME 2; DROP" + END);
        b.code("class C{far C m(C c,far C f){return null;}}main{new C.m(null,null);}",
            "NULL 2; ANSWER; NULL 2; ANSWER; NEW; NULL 1; NULL 2; CALL 0 2; DROP" + END);
    }

    private static void statements(Bench b) {
        b.code("main{if(true)print 1;}", "NUMBER 1; UNLESS 4; NUMBER 1; PRINT" + END);
        b.code("main{if(true)print 1;else print 2;}",
            "NUMBER 1; UNLESS 5; NUMBER 1; PRINT; JUMP 7; NUMBER 2; PRINT" + END);
        b.code("main{if(true)if(false)print 1;else print 2;}",
            "NUMBER 1; UNLESS 9; NUMBER; UNLESS 7; NUMBER 1; PRINT; JUMP 9; NUMBER 2; PRINT" + END);
        b.code("main{while(true){put 1,2;}}", "NUMBER 1; UNLESS 6; NUMBER 1; NUMBER 2; PUT; JUMP" + END);
        b.code("main{int a=1;{int c=2;}{int d=a;}a=3;}",
            "NUMBER 1; STORE; NUMBER 2; STORE 1; LOAD; STORE 2; NUMBER 3; STORE" + END);
        b.code("main{raise 4;}", "NUMBER 4; RAISE" + END);
    }

    private static void methods(Bench b) {
        b.code("class A{int u;bool v;int m(int k){u=k;return n(u)+this.u;}int n(int k){int z=k;return z;}}"
            + "class B{A a;A o(){}far A q(){}int[] r(){}bool s(){}}main{A a=new A;a.m(1);}",
            "LOAD; LOAD 1; SETFIELD; LOAD; LOAD; FIELD; CALL 1 1; LOAD; FIELD; SIGN; ANSWER; NUMBER; ANSWER; "
            + "LOAD 1; STORE 2; LOAD 2; ANSWER; NUMBER; ANSWER; NULL 1; ANSWER; NULL 2; ANSWER; NULL 1; ANSWER; NUMBER; ANSWER; "
            + "NEW; STORE; LOAD; NUMBER 1; CALL 0 1; DROP" + END);
        int[][] want = {{0, 1, 2, 0, 0}, {0, 1, 3, 13, 0}, {1, 0, 1, 19, 1}, {1, 0, 1, 21, 2}, {1, 0, 1, 23, 1},
            {1, 0, 1, 25, 0}, {-1, 0, 1, 27, 0}};
        for (int m = 0; m < want.length; m++) {
            for (int what = 0; what < 5; what++) {
                b.due("method " + m + " " + what, b.x.method(0, m, what), want[m][what]);
            }
            b.due("method 5", b.x.method(0, m, 5), -1);
            b.due("method -1", b.x.method(0, m, -1), -1);
        }
        b.due("method", b.x.method(0, 7, 0), -1);
        b.due("method", b.x.method(0, -1, 2), -1);
        b.due("method", b.x.method(1, 0, 2), -1);
        b.due("method", b.x.method(-1, 0, 2), -1);
        b.due("classes", b.x.program(0, 0), 2);
        b.due("methods", b.x.program(0, 1), 7);
        b.due("instructions", b.x.program(0, 2), 35);
        b.due("program 4", b.x.program(0, 4), -1);
        b.due("program -1", b.x.program(0, -1), -1);
        b.due("program", b.x.program(-1, 1), -1);
        b.due("program", b.x.program(1, 1), -1);
        b.due("instruction", b.x.instruction(0, 35, 0), -1);
        b.due("instruction", b.x.instruction(0, -1, 0), -1);
        b.due("instruction", b.x.instruction(1, 0, 0), -1);
        b.due("instruction", b.x.instruction(0, 0, 5), -1);
        b.due("instruction", b.x.instruction(0, 0, -1), -1);
        b.code("class C{int f(int k){return k;}}main{far C c=null;c.f(2);}",
            "LOAD 1; ANSWER; NUMBER; ANSWER; NULL 2; STORE; LOAD; NUMBER 2; FAR 0 1; DROP" + END);
    }

    private static void reaches(Bench b) {
        // a LOCAL or parameter hides the field, as long as it is in reach
        b.code("class C{int a;int c;int m(int a){a=c;{int c=a;c=a;}return c;}}main{}",
            "LOAD; FIELD 1; STORE 1; LOAD 1; STORE 2; LOAD 1; STORE 2; LOAD; FIELD 1; ANSWER; NUMBER; ANSWER; NUMBER; ANSWER");
        b.code("class C{int a;int m(){int a=a;a=this.a;return a;}}main{}",
            "LOAD; FIELD; STORE 1; LOAD; FIELD; STORE 1; LOAD 1; ANSWER; NUMBER; ANSWER; NUMBER; ANSWER");
        b.code("class C{int m;int n(int k){return m;}}class D{int n;int m(int k){n=m(n);return n;}}main{}",
            "LOAD; FIELD; ANSWER; NUMBER; ANSWER; LOAD; LOAD; LOAD; FIELD; CALL 1 1; SETFIELD; LOAD; FIELD; ANSWER; NUMBER; ANSWER; "
            + "NUMBER; ANSWER");
    }

    private static void handlers(Bench b) {
        b.code("main{try{print 1;try{print 2;}catch(e){print e;}}catch(e){print 3;}}",
            "NUMBER 1; PRINT; NUMBER 2; PRINT; JUMP 8; STORE; LOAD; PRINT; JUMP 12; STORE 1; NUMBER 3; PRINT" + END);
        b.due("handlers", b.column(0, 3), "9 9 5 5 9 9 9 9 -1 -1 -1 -1 -1 -1");
        b.due("heights", b.column(0, 4), "0 1 0 1 0 1 0 1 0 1 0 1 0 1");
        b.due("slots", b.x.method(0, 0, 2), 2);
    }

    private static void ways(Bench b) {
        b.fine("main{return 1;}");
        b.due("heights", b.column(0, 4), "0 1 -1 -1");
        b.fine("main{raise 1;print 2;}");
        b.due("heights", b.column(0, 4), "0 1 -1 -1 -1 -1");
        b.fine("main{try{return 1;}catch(e){}}");
        b.due("code", b.code(0), "NUMBER 1; ANSWER; JUMP 4; STORE; NUMBER; ANSWER");
        b.due("heights", b.column(0, 4), "0 1 -1 1 0 1");
        b.fine("main{return 1;try{print 1;}catch(e){}}");
        b.due("heights", b.column(0, 4), "0 1 -1 -1 -1 -1 -1 -1");
        b.fine("main{while(true)return 2;}");
        b.due("heights", b.column(0, 4), "0 1 0 1 -1 0 1");
        b.fine("main{try{}catch(e){print e;}}");
        b.due("heights", b.column(0, 4), "0 -1 -1 -1 0 1");
        b.fine("main{bool a=true==(2<3&&true);}");
        b.due("heights", b.column(0, 4), "0 1 2 3 2 1 2 1 2 1 0 1");
    }

    /** What each operation takes from the stack and puts there; of CALL and FAR beside their ARGUMENTS. */
    private static final int[] TAKES = {0, 0, 0, 1, 1, 2, 2, 3, 1, 0, 1, 1, 1, 2, 1, 1, 0, 1, 1, 1, 2, 1, 1, 1, 1, 0, 0, 0, 1, 2};
    private static final int[] PUTS = {1, 1, 1, 0, 1, 0, 1, 0, 1, 1, 1, 1, 1, 1, 1, 1, 0, 0, 0, 0, 0, 1, 0, 1, 1, 1, 1, 1, 0, 1};

    /** Each operation with others' numbers below it: the ways are followed here, by the document's words. */
    private static void heights(Bench b) {
        String head = "class C{int v;bool w;C n;far C f;int[] r;int i(int a,int c,int d){return a;}int t(int a,int c,bool d){return a;}"
            + "int o(int a,int c,C d){return a;}int q(int a,int c,far C d){return a;}int k(int a,int c,int[] d){return a;}"
            + "bool z(){return w;}int all(C c,far C g,bool b,int y){";
        String[] bodies = {"i(1,2,-y);i(1,2,get y);i(1,2,r[y]);i(1,2,r.length);i(1,2,here);i(1,2,self);i(1,2,twin);i(1,2,y*y);i(1,2,c.v);i(1,2,c.i(y,y,y));",
            "t(1,2,!b);t(1,2,go y);t(1,2,y==y);t(1,2,y<y);t(1,2,c==n);t(1,2,g!=null);t(1,2,null==r);t(1,2,b&&w);t(1,2,b||w);t(1,2,b&&w||b&&z());",
            "t(1,2,b||w&&b||w);t(1,2,(b||w)==(w||b&&w));t(1,2,true==(false||2<3));o(1,2,null);o(1,2,new C);q(1,2,pin c);q(1,2,null);k(1,2,new int[y]);",
            "k(1,2,r);i(1,2,g.i(y,y,y));i(g.i(1,2,3),4,g.t(5,6,g.z()));r[y]=r[r[y]];c.n.v=c.n.n.v;n=c;v=y;f=g;",
            "try{i(1,2,3/0);}catch(e){i(1,2,e);try{raise e;}catch(h){put h,get e;}}while(b&&w){if(b)return 1+(2+y);else raise y;}return y;",
            "if(b||w){return 1;}while(!b){while(w)y=y+1;if(y>3)y=2;else y=3;}put 1,(2+(3+get 4));print 1+(2+y);"};
        for (String body : bodies) {
            b.fresh();
            b.due("read of " + body, b.read(head + body + "}}main{C c=new C;return c.all(c,pin c,true||false,1)+c.i(1,2,3);}"), 0);
            for (int m = 0; m < b.x.program(0, 1); m++) {
                if (b.x.method(0, m, 1) != 3) {
                    methodHeights(b, m);
                }
            }
        }
    }

    private static void methodHeights(Bench b, int m) {
        int first = b.x.method(0, m, 3);
        int end = m + 1 < b.x.program(0, 1) ? b.x.method(0, m + 1, 3) : b.x.program(0, 2);
        int[] high = new int[end - first];
        java.util.Arrays.fill(high, -1);
        java.util.ArrayDeque<int[]> open = new java.util.ArrayDeque<>();
        open.add(new int[] {first, 0});
        while (!open.isEmpty()) {
            int[] at = open.poll();
            int k = at[0] - first;
            if (high[k] >= 0) {
                b.due("one height at " + at[0], at[1], high[k]);
                continue;
            }
            high[k] = at[1];
            int what = b.x.instruction(0, at[0], 0);
            int more = what == 11 || what == 12 ? b.x.instruction(0, at[0], 2) : 0;
            int then = at[1] - TAKES[what] - more + PUTS[what];
            if (what == 16 || what == 17) {
                open.add(new int[] {b.x.instruction(0, at[0], 1), then});
            }
            if (what != 16 && what != 18 && what != 22) {
                open.add(new int[] {at[0] + 1, then});
            }
            if (b.x.instruction(0, at[0], 3) >= 0) {
                open.add(new int[] {b.x.instruction(0, at[0], 3), 1});
            }
        }
        for (int k = 0; k < high.length; k++) {
            b.due("height at " + (first + k), b.x.instruction(0, first + k, 4), high[k]);
        }
    }

    private static void sums(Bench b) {
        String text = "main{print 7;return 3;}";
        b.fine(text);
        b.due("sum", b.x.program(0, 3), Bench.sum(Bench.bytesOf(text), text.length()) & 0xFFFF);
        b.due("second", b.read(text + " "), 1);
        b.due("sum", b.x.program(1, 3), Bench.sum(Bench.bytesOf(text + " "), text.length() + 1) & 0xFFFF);
    }
}
