/** Promise 4: texts that have faults, and which of them is told. */
public final class ReadTest {
    public static void main(String[] args) {
        Bench b = new Bench();
        tokens(b);
        grammar(b);
        aheadOfSet(b);
        depths(b);
        twice(b);
        nothing(b);
        types(b);
        calls(b);
        unknownTypes(b);
        whichIsFirst(b);
        limits(b);
        programs(b);
        oneBehindAnother(b);
        b.end();
    }

    private static final String S = "class C{int v;bool w;C n;int[] r;far C f;int m(int k){return k;}C o(C c){return c;}}";

    /** A fault of main's statements, behind a class with members of all sorts. */
    private static void rule(Bench b, String statements, int fault) {
        b.fault(S + "main{C c=new C;far C f=null;int i=0;bool t=true;int[] r=null;\n" + statements + "}", fault, 2);
    }

    private static void good(Bench b, String statements) {
        b.fine(S + "main{C c=new C;far C f=null;int i=0;bool t=true;int[] r=null;\n" + statements + "}");
    }

    private static void tokens(Bench b) {
        b.fault("", 2, 1);
        b.fault("\n\n", 2, 3);
        b.fault("//main{}", 2, 1);
        b.fine("//\nmain{}//");
        b.fine("\t main\n{ } // }}");
        b.fault("main{}\r", 1, 1);
        b.fault("#", 1, 1);
        b.fault("main{#", 1, 1);
        b.fault("main#{", 1, 1);
        b.fault("}#", 2, 1);
        b.fine("main{int abcdefghijkl=1;}");
        b.fault("main{int abcdefghijklm=1;}", 1, 1);
        b.fault("main{int _a=1;}", 1, 1);
        b.fine("main{int a_1=1;int Z9=a_1;}");
        b.fine("main{print 2147483647;print 00000000000000000000000007;}");
        b.fault("main{\nprint 2147483648;}", 1, 2);
        b.fault("main{print 99999999999999999999999;}", 1, 1);
        b.fault("main{print 1a;}", 1, 1);
        b.fault("main{print 1_;}", 1, 1);
        b.fault("main{print 1&2;}", 1, 1);
        b.fault("main{print 1|2;}", 1, 1);
        b.fault("main{true&&&false;}", 1, 1);
        b.fault("main{int a===1;}", 2, 1);
        b.fault("main{int a=-2147483648;}", 1, 1);
        b.fault("main{int a=1;\n\nprint \u00e4;}", 1, 3);
        b.fault("mainx{}", 2, 1);
        b.fault("main{int if=1;}", 2, 1);
        b.fault("main{int a=1/ /2;}", 2, 1);
    }

    private static void grammar(Bench b) {
        b.fault("main", 2, 1);
        b.fault("main{", 2, 1);
        b.fault("main{}}", 2, 1);
        b.fault("main{}main{}", 2, 1);
        b.fault("main{}\nclass C{}", 2, 2);
        b.fault("class{}main{}", 2, 1);
        b.fault("class C main{}", 2, 1);
        b.fault("class C{int}main{}", 2, 1);
        b.fault("class C{int a}main{}", 2, 1);
        b.fault("class C{int a=1;}main{}", 2, 1);
        b.fault("class C{main a;}main{}", 2, 1);
        b.fault("class C{int a(){}", 2, 1);
        b.fault("class C{int a(int){}}main{}", 2, 1);
        b.fault("class C{int a(int b,){}}main{}", 2, 1);
        b.fine("class C{int a(int b,int c,int d,int e){}}main{}");
        b.fault("class C{int a(int b,int c,int d,int e\n,\nint f){}}main{}", 2, 2);
        b.fault("class C{bool[] a;}main{}", 2, 1);
        b.fault("class C{int[ a;}main{}", 2, 1);
        b.fault("class C{far int a;}main{}", 2, 1);
        b.fine("class C{int [ ] a;far C b;C c;bool d;int[]m(far C q,int[]z){}}main{}");
        b.fault("main{;}", 2, 1);
        b.fault("main{int a;}", 2, 1);
        b.fault("main{return;}", 2, 1);
        b.fault("main{print 1}", 2, 1);
        b.fault("main{put 1;}", 2, 1);
        b.fault("main{if true print 1;}", 2, 1);
        b.fault("main{else print 1;}", 2, 1);
        b.fault("main{if(true)\nint a=1;}", 2, 2);
        b.fault("main{if(true)print 1;else\nbool a=true;}", 2, 2);
        b.fault("main{while(true)\nfar\nC a=null;}", 2, 2);
        b.fault("class C{}main{while(true)C\na=null;}", 2, 2);
        b.fine("class C{}main{while(true){C a=null;}}");
        b.fault("main{try print 1;catch(e){}}", 2, 1);
        b.fault("main{try{}catch(e)print 1;}", 2, 1);
        b.fault("main{try{}catch(int e){}}", 2, 1);
        b.fault("main{try{}}", 2, 1);
        b.fault("main{1==2==3;}", 2, 1);
        b.fault("main{1<2<3;}", 2, 1);
        b.fault("main{1<2==3<4==true;}", 2, 1);
        b.fault("main{true==1<2\n<3;}", 2, 2);
        b.fine("main{1<2==3<4&&1==2||3!=4;}");
        b.fault("main{1+;}", 2, 1);
        b.fault("main{+1;}", 2, 1);
        b.fault("main{f(1,);}", 2, 1);
        b.fault("main{(1;}", 2, 1);
        b.fault("main{new;}", 2, 1);
        b.fault("main{new int;}", 2, 1);
        b.fault("main{new bool[3];}", 2, 1);
        b.fault("main{a.;}", 2, 1);
        b.fault("main{a.1;}", 2, 1);
        b.fault("main{a.length();}", 2, 1);
        b.fault("main{a[];}", 2, 1);
        b.fault("main{a[1;}", 2, 1);
        b.fault("main{length;}", 2, 1);
        b.fault("main{int[] a=new int[]{};}", 2, 1);
    }

    private static void aheadOfSet(Bench b) {
        String[] none = {"(a)", "a()", "a.m()", "a.length", "this", "1", "-a", "!a", "a+a", "new C", "new int[3]", "here",
            "null", "go a", "a==a", "(a.b)", "(a[1])", "a&&a.b", "get a.b"};
        for (String ahead : none) {
            b.fault("main{" + ahead + "\n=1;}", 2, 2);
        }
        good(b, "i=1;c.v=2;c.n.v=3;c.r[i]=4;r[0]=5;(c).v=6;c.o(c).v=7;new C.v=8;c.o(c).r[1]=9;new int[4][1]=2;");
        b.fault("main{int a=1;a=\n=2;}", 2, 2);
        b.fault("main{int a=1;a=a\n=2;}", 2, 2);
    }

    private static String times(String s, int n) {
        StringBuilder all = new StringBuilder();
        for (int i = 0; i < n; i++) {
            all.append(s);
        }
        return all.toString();
    }

    private static void depths(Bench b) {
        // main's BLOCK is the first one that is open
        b.fine("main" + times("{", 20) + times("}", 20));
        b.fault("main" + times("{", 20) + "\n{" + times("}", 21), 3, 2);
        // BLOCK, STATEMENT, then the Es
        b.fine("main{" + times("(", 17) + "1" + times(")", 17) + ";}");
        b.fault("main{" + times("(", 18) + "\n1" + times(")", 18) + ";}", 3, 2);
        b.fine("main{" + times("-", 17) + "1;}");
        b.fault("main{" + times("-", 17) + "\n-1;}", 3, 2);
        b.fine("main{bool a=" + times("!", 17) + "true;}");
        b.fault("main{bool a=" + times("!", 17) + "\n!true;}", 3, 2);
        // a LOCAL's E is within the STATEMENT, what stands ahead of = is closed there
        b.fine("main" + times("{", 18) + "int a=1;a=2;" + times("}", 18));
        b.fault("main" + times("{", 19) + "int a=\n1;" + times("}", 19), 3, 2);
        b.fault("main" + times("{", 19) + "\na=1;" + times("}", 19), 3, 2);
        b.fault("class C{}main" + times("{", 19) + "C a=\nnull;" + times("}", 19), 3, 2);
        b.fault("class C{}main" + times("{", 19) + "\nreturn\n1;" + times("}", 19), 3, 3);
        // a STATEMENT of if within it, try's BLOCKS within it
        b.fine("main{" + times("if(true)", 17) + "print 1;}");
        b.fault("main{" + times("if(true)", 18) + "print\n1;}", 3, 2);
        b.fault("main{" + times("if(true)", 17) + "if(\n-1==2);}", 3, 2);
        b.fine("main" + times("{", 18) + "try{}catch(e){}" + times("}", 18));
        b.fault("main" + times("{", 19) + "try\n{}catch(e){}" + times("}", 19), 3, 2);
        b.fine("class C{int m()" + times("{", 20) + times("}", 20) + "}main{}");
        b.fault("class C{int m()" + times("{", 20) + "\n{" + times("}", 21) + "}main{}", 3, 2);
        b.fine("main{int[] a=null;" + times("a[", 17) + "1" + times("]", 17) + ";}");
        b.fault("main{int[] a=null;" + times("a[", 18) + "\n1" + times("]", 18) + ";}", 3, 2);
        b.fine("class C{int m(int k){return " + times("m(", 17) + "1" + times(")", 17) + ";}}main{}");
        b.fault("class C{int m(int k){return " + times("m(", 18) + "\n1" + times(")", 18) + ";}}main{}", 3, 2);
        b.fault("main{new int[" + times("(", 17) + "\n1", 3, 2);
        // of one token the least
        b.fault("main" + times("{", 20) + "\n;", 2, 2);
        b.fault("main" + times("{", 20) + "\nelse", 2, 2);
        b.fault("main" + times("{", 19) + "if(true)", 3, 1);
        b.fault("main{" + times("(", 18) + "\n)", 2, 2);
        b.fault("main{" + times("(", 18) + "\n#", 1, 2);
        // as wide as can be
        b.fine("main{int a=1;print a" + times("+a", 590) + ";}");
        b.fine("class C{C n;}main{C c=null;c" + times(".n", 1100) + ";}");
    }

    private static void twice(Bench b) {
        b.fault("class C{}\nclass C{}main{}", 4, 2);
        b.fault("class C{int a;\nbool a;}main{}", 4, 2);
        b.fault("class C{int a;\nint a(){}}main{}", 4, 2);
        b.fault("class C{int a(){}\nint a(){}}main{}", 4, 2);
        b.fine("class C{int C;int C2(int C){}}class D{int C;}main{int C=1;}");
        b.fault("class C{int m(int a,\nint a){}}main{}", 4, 2);
        b.fault("class C{int m(int a){int b=1;\nint a=2;}}main{}", 4, 2);
        b.fault("main{int a=1;{\nint a=2;}}", 4, 2);
        b.fine("main{{int a=1;}int a=2;}");
        b.fine("main{if(true){int a=1;}else{int a=2;}while(false){int a=3;}int a=4;}");
        b.fault("main{int e=1;try{}catch(\ne){}}", 4, 2);
        b.fault("main{try{}catch(e){\nint e=1;}}", 4, 2);
        b.fine("main{try{int e=1;}catch(e){}int e=2;try{}catch(f){}}");
        b.fine("class C{int a;int m(){int a=1;return a;}}main{}");
    }

    private static void nothing(Bench b) {
        b.fault("class C{\nD a;}main{}", 5, 2);
        b.fault("class C{far\nD a;}main{}", 5, 2);
        b.fault("class C{\nD m(){}}main{}", 5, 2);
        b.fault("class C{int m(\nD d){}}main{}", 5, 2);
        b.fine("class C{D a;D m(far D d){}}class D{C c;}main{}");
        rule(b, "D d=null;", 5);
        rule(b, "new D;", 5);
        rule(b, "x;", 5);
        rule(b, "x=1;", 5);
        rule(b, "v;", 5);
        rule(b, "m(1);", 5);
        rule(b, "c.x;", 5);
        rule(b, "c.m;", 5);
        rule(b, "c.v();", 5);
        rule(b, "c.x();", 5);
        rule(b, "f.v;", 5);
        rule(b, "f.v=1;", 5);
        rule(b, "f.x();", 5);
        rule(b, "int q=q;", 5);
        rule(b, "{int q=1;}q;", 5);
        rule(b, "try{}catch(e){}e;", 5);
        rule(b, "try{int q=1;}catch(e){q;}", 5);
        b.fault("class C{int m(){\nreturn n();}}class D{int n(){}}main{}", 5, 2);
        b.fault("class C{int v;int m(){return\nv();}}main{}", 5, 2);
        b.fault("class C{int v(){return\nv;}}main{}", 5, 2);
        b.fine("class C{int m(){v=n(v);return v;}int v;int n(int v){return v;}}main{}");
        // both a field and a method: the fault is that it is there twice
        b.fault("class C{int m(){return a+a();}int a;\nint a(){}}main{}", 4, 2);
    }

    private static void types(Bench b) {
        String[] six = {"i||t;", "t||i;", "t&&i;", "i&&t;", "!i;", "!null;", "!c;", "t<i;", "i<=t;", "i>c;", "r>=i;",
            "t+i;", "i-t;", "t*i;", "i/null;", "i%t;", "-t;", "-null;", "go t;", "get t;", "get null;", "go c;",
            "i==t;", "t!=i;", "c==r;", "c==f;", "i==null;", "null==t;", "null==null;", "null!=null;", "(null)==null;",
            "null.v;", "null.m(1);", "null.length;", "null[0];", "pin null;", "pin r;", "pin f;", "pin 1;", "pin t;",
            "i=t;", "t=i;", "i=null;", "t=null;", "c=r;", "r=c;", "c=f;", "f=c;", "r=i;", "i=r;",
            "int z=t;", "bool z=1;", "C z=pin c;", "far C z=c;", "int[] z=1;", "int z=null;",
            "return t;", "return c;", "return null;", "print t;", "print c;", "print null;", "raise t;", "raise null;",
            "put t,i;", "put i,t;", "put i,null;", "if(i)i;", "if(null)i;", "while(i)i;", "while(c)i;", "new int[t];",
            "new int[null];", "r[t];", "r[null];", "c[0];", "i[0];", "f[0];", "r[0]=t;", "r[t]=1;", "c.v=t;", "c.w=1;",
            "c.n=r;", "c.r=c;", "c.f=c;", "c.m(t);", "c.m(null);", "c.m(c);", "c.o(1);", "c.o(f);", "c.o(r);",
            "i.v;", "t.v;", "r.v;", "r.m();", "i.m();", "i.length;", "c.length;", "f.length;", "f.m(t);"};
        for (String s : six) {
            rule(b, s, 6);
        }
        good(b, "t||t&&!t;i<i==i>=i;-i+i*i/i%i-i;c==c;r!=r;f==f;t==t;i!=i;c==null;null!=r;f==null;null==f;");
        good(b, "c=null;r=null;f=null;C z=null;far C y=null;int[] x=null;f=pin c;c.n=null;c.r=null;c.f=null;c.f=f;c.n=c.n.n;");
        good(b, "t=go i==t&&get i==i;return r.length+r[i]+c.v+c.m(i)+f.m(i)+here+self+twin+get i;");
        good(b, "c.o(null);c.o(c).o(c.n).v=1;c.o(new C);c.w=go 1;c.r=new int[3];");
        // at which token
        at(b, "i=\n1\n+\nt;", 6, 4);
        at(b, "i\n=\nt;", 6, 3);
        at(b, "c\n.\nm(\nt);", 6, 5);
        at(b, "c.o(c,\n1);", 7, 2);
        at(b, "i\n.\nv;", 6, 3);
        at(b, "c.\nx;", 5, 3);
        at(b, "r\n[\nt\n];", 6, 3);
        at(b, "i\n[\n0\n];", 6, 3);
        at(b, "\nnew\nint[\nt];", 6, 3);
        at(b, "\nput\ni,\nt;", 6, 3);
        at(b, "i=\n-\nt;", 6, 3);
        at(b, "f=\npin\nr;", 6, 3);
        at(b, "\nif(\n1)i;", 6, 3);
        at(b, "\nwhile\n(1)i;", 6, 3);
        at(b, "\nreturn\nt;", 6, 3);
        at(b, "t=t\n||\ni;", 6, 3);
        at(b, "c.o(\ni\n+\ni);", 6, 3);
        b.fault("class C{bool m(){\nreturn 1;}}main{}", 6, 2);
        b.fault("class C{C m(){\nreturn 1;}}main{}", 6, 2);
        b.fine("class C{C m(){return null;}far C n(){return null;}int[] o(){return null;}bool q(){}}main{return 1;}");
    }

    /** Main's statements begin in line 2. */
    private static void at(Bench b, String statements, int fault, int line) {
        b.fault(S + "main{C c=new C;far C f=null;int i=0;bool t=true;int[] r=null;\n" + statements + "}", fault, line);
    }

    private static void calls(Bench b) {
        rule(b, "c.m();", 7);
        rule(b, "c.m(1,2);", 7);
        rule(b, "c.o();", 7);
        rule(b, "f.o(c);", 7);
        rule(b, "f.m();", 7);
        at(b, "c.\nm\n();", 7, 3);
        at(b, "f.\no\n(1);", 7, 3);
        b.fault("class C{int m(int k){return\nm();}}main{}", 7, 2);
        b.fault("class C{C a(){}int b(C c){}int[] d(){}int e(far C f){}bool g(bool x,int y){}}main{far C f=null;f.g(true,1);\nf.a();}",
            7, 2);
        b.fault("class C{int b(C c){}}main{far C f=null;\nf.b(null);}", 7, 2);
        b.fault("class C{int[] b(){}}main{far C f=null;\nf.b();}", 7, 2);
        b.fault("class C{int b(far C c){}}main{far C f=null;\nf.b(f);}", 7, 2);
        b.fault("main{\nthis;}", 8, 2);
        b.fault("main{this.x.y(1)=2;}", 2, 1);
        b.fault("main{int a=\nthis.x.y;}", 8, 2);
        b.fine("class C{C m(){return this;}int n(){return this.m().n();}}main{}");
    }

    private static void unknownTypes(Bench b) {
        // what is of no known TYPE fits everything: only the fault at the end is told
        b.fault("class C{int m(){bool t=x.length;int i=x.y.z(1);print x;t=!x;i=-x;C c=x;c=x.a(x);return x;}\nD x;}main{}", 5, 2);
        b.fault("class C{int m(){far C f=pin x;int i=pin x;bool t=pin x;x=1;x=null;x=this;x.y=3;x.y=true;}\nD x;}main{}", 5, 2);
        b.fault("class C{int m(){if(x)print x;while(x==null)put x,x;raise x;}\nD x;}main{}", 5, 2);
        b.fault("class C{int m(){int i=x[x];}\nD x;}main{}", 5, 2);
        b.fault("class C{int m(){x==1;x==true;x!=this;null==x;n(x);n(null);n(1);q(1).r;new int[x];}int n(\nD d){}D q(int i){}D x;}main{}",
            5, 2);
        b.fault("class C{int m(){far C c=null;return c.n(1);}\nD n(int i){}}main{}", 5, 2);
        // all else has its TYPE, whatever is wrong in it
        b.fault("class C{int m(){bool t\n=x[0];}D x;}main{}", 6, 2);
        b.fault("class C{int m(){int i\n=x==1;}D x;}main{}", 6, 2);
        b.fault("class C{int m(){bool t\n=x+1;}D x;}main{}", 6, 2);
        b.fault("class C{int m(){int i\n=!x;}D x;}main{}", 6, 2);
        b.fault("class C{int m(){int i\n=go x;}D x;}main{}", 6, 2);
        b.fault("class C{int m(){bool t\n=get x;}D x;}main{}", 6, 2);
        b.fault("class C{int m(){bool t\n=new int[x];}D x;}main{}", 6, 2);
        b.fault("class C{int m(){bool t\n=n(1);}int n(D d){}}main{}", 6, 2);
        b.fault("class C{int m(){int i=1;bool t\n=i.x.length+2;}}main{}", 6, 2);
    }

    private static void whichIsFirst(Bench b) {
        // the text's faults come ahead of the rules'
        b.fault("main{x;\n\n;}", 2, 3);
        b.fault("main{x;}\n#", 1, 2);
        b.fault("main{int a=true;\n" + times("{", 20), 3, 2);
        // of the rules' the token that comes first, though it is found later
        b.fault("main{\nint a\n=\nx+true;}", 5, 4);
        b.fault("main{bool a\n=\n1+true;}", 6, 2);
        b.fault("main{\nprint\ntrue+x;}", 6, 3);
        b.fault("class C{int a;int a;\n}main{x;}", 4, 1);
        b.fault("class C{int m(){return x;}\nint m;}main{x;}", 5, 1);
        // names are those that stand first
        b.fault("class B{int m(A a){return a.f;}}\nclass A{}\nclass A{int f;}main{}", 5, 1);
        b.fault("class C{int m(){return\na;}bool a;int a;}main{}", 6, 1);
    }

    private static void limits(Bench b) {
        StringBuilder classes = new StringBuilder();
        StringBuilder fields = new StringBuilder("class C{");
        StringBuilder methods = new StringBuilder("class C{");
        StringBuilder locals = new StringBuilder("class C{int m(int a,int b){");
        for (int i = 0; i < 12; i++) {
            classes.append("class C").append(i).append("{}");
            fields.append("int f").append(i).append(";");
        }
        for (int i = 0; i < 39; i++) {
            methods.append("int f").append(i).append("(){}");
        }
        for (int i = 0; i < 28; i++) {
            locals.append("{int f").append(i).append("=1;}");
        }
        b.fine(classes + "main{}");
        b.fault(classes + "class D{}main{}", 9, 0);
        b.fault(classes + "class D{}main{\nx;}", 5, 2);
        b.fine(fields + "}main{}");
        b.fault(fields + "int g;}main{}", 9, 0);
        b.fine(methods + "}main{}");
        b.due("methods", b.x.program(0, 1), 40);
        b.fault(methods + "int g(){}}main{}", 9, 0);
        b.fine(locals + "}}main{}");
        b.due("slots", b.x.method(0, 0, 2), 31);
        b.fault(locals + "try{}catch(e){}}}main{}", 9, 0);
        b.fault("main{" + times("{int a=1;}", 31) + "}", 9, 0);
        b.fine("main{" + times("{int a=1;}", 30) + "}");
        // NUMBER, DROP: two each, and two at the end
        b.fine("main{" + times("1;", 599) + "}");
        b.due("instructions", b.x.program(0, 2), 1200);
        b.fault("main{" + times("1;", 599) + "1+1;}", 9, 0);
        b.fault("main{" + times("1;", 600) + "}", 9, 0);
        b.fault("main{" + times("1;", 1990) + "}", 9, 0);
        b.fault("class C{int f;int m(){" + times("f;", 1900) + "}}main{}", 9, 0);
        b.fault("class C{int f;int m(){" + times("f=f;", 900) + "f=f&&f;}}main{}", 6, 1);
        b.fault("main{try{" + times("1;", 900) + "true&&true||false;}catch(e){" + times("e;", 900) + "}}", 9, 0);
        b.fault("class C{int f(){}int g(){" + times("f(f());", 500) + "}}main{}", 7, 1);
        StringBuilder many = new StringBuilder();
        for (int i = 0; i < 400; i++) {
            many.append("class ").append((char) ('a' + i % 26)).append("{}");
        }
        b.fault(many + "main{}", 4, 1);
        b.fault(times("class a{}", 443) + "main{}", 4, 1);
        b.fault("class a{" + times("a b;", 990) + "}main{}", 4, 1);
        b.fault("class a{" + times("a b(){}", 560) + "}main{}", 4, 1);
        b.fault("class a{}main{" + times("a b=c;", 660) + "}", 5, 1);
    }

    private static void programs(Bench b) {
        b.fresh();
        for (int p = 0; p < 8; p++) {
            b.due("read", b.read("main{}"), p);
        }
        b.due("ninth", b.read("main{}"), -9);
        b.due("ninth, with a fault", b.read("main{x;}"), -21);
        b.due("ninth, with a fault", b.read("main{;}"), -18);
        b.due("programs", b.x.count(1), 8);
        b.due("tape", b.x.count(0), 0);
        b.due("none", b.x.program(8, 0), -1);
        // many names, again and again; the tape is full in the midst of one
        b.fresh();
        for (int i = 0; i < 2; i++) {
            StringBuilder text = new StringBuilder("main{");
            for (int k = 0; k < 600; k++) {
                text.append("n").append(i).append("_").append(k).append(";");
            }
            b.due("many names", b.read(text.substring(0, 4000)), -(2 + 16));
        }
    }

    /** Nothing of one text is left for the next one. */
    private static void oneBehindAnother(Bench b) {
        b.fresh();
        b.due("many LOCALS", b.read("main{" + times("{int a=1;}", 31) + "}"), -9);
        b.due("fine", b.read("class C{int v;int m(int k){return v;}}main{C c=new C;return c.m(1);}"), 0);
        b.due("many lines", b.read("\n\n\nclass D{}\nmain{\nx;}"), -(5 + 16 * 6));
        b.due("no class C", b.read("main{C c=null;}"), -(5 + 16));
        b.due("no class D", b.read("class C{D d;}main{}"), -(5 + 16));
        b.due("no field", b.read("class C{int m(){return v;}}main{}"), -(5 + 16));
        b.due("no method", b.read("class C{int v(){return m(1);}}main{}"), -(5 + 16));
        b.due("deep", b.read("main" + times("{", 21)), -(3 + 16));
        b.due("fine", b.read("main" + times("{", 20) + times("}", 20)), 1);
        b.due("bad", b.read("main{#}"), -(1 + 16));
        b.due("long", b.read("main{" + times("1;", 700) + "}"), -9);
        b.due("fine", b.read("main{try{raise 1;}catch(e){print e;}}"), 2);
        b.due("code", b.code(2), "NUMBER 1; RAISE; JUMP 6; STORE; LOAD; PRINT; NUMBER; ANSWER");
        b.due("handlers", b.column(2, 3), "3 3 -1 -1 -1 -1 -1 -1");
        b.due("heights", b.column(2, 4), "0 1 -1 1 0 1 0 1");
        b.due("the first as it was", b.code(0), "LOAD; FIELD; ANSWER; NUMBER; ANSWER; NEW; STORE; LOAD; NUMBER 1; CALL 0 1; ANSWER; "
            + "NUMBER; ANSWER");
    }
}
