/** Terms 3, TRAVELLERS: the sentences that name an edge, each at the edge itself and on both sides of it. */
public final class EdgeRunTest {
    public static void main(String[] args) {
        Bench b = new Bench();
        numbersEver(b);
        linesKept(b);
        stepsCounted(b);
        wraps(b);
        trueIsOne(b);
        nulls(b);
        indexes(b);
        lengths(b);
        divisors(b);
        goals(b);
        raised(b);
        whoHandles(b);
        beginnings(b);
        frames(b);
        objects(b);
        cells(b);
        reached(b);
        boards(b);
        twins(b);
        whoCountsAmongEight(b);
        manyWhoStep(b);
        b.end();
    }

    /** "TRAVELLERS have a number (from 0 on as they begin, 30 at most ever)": by start, by TWIN, by come. */
    private static void numbersEver(Bench b) {
        b.begin("main{return 1;}");
        byte[] bytes = b.packed(0, 0);
        for (int t = 1; t < 29; t++) {
            b.step(0, 2);
            b.due("start", b.start(0, 0), t);
        }
        b.step(0, 2);
        // the thirtieth one is lost with the host's fall, its number is not used again
        b.x.power(0, 0);
        b.due("start", b.start(0, 0), 29);
        b.due("ever", b.x.count(2), 30);
        b.due("a thirty-first", b.start(0, 1), Bench.ILLEGAL_STATE);
        b.feed(bytes);
        b.due("a thirty-first", b.come(1), Bench.ILLEGAL_STATE);
        b.due("the tape stays", b.x.count(0), bytes.length);
        b.due("ever", b.x.count(2), 30);
        b.due("the last", b.x.traveller(29, 0, 0), 0);
        b.due("none", b.x.traveller(30, 0, 0), -1);
        // by come, as the thirtieth
        b.begin("main{return 1;}");
        for (int t = 1; t < 29; t++) {
            b.step(0, 2);
            b.start(0, 0);
        }
        b.feed(bytes);
        b.due("the thirtieth", b.come(1), 29);
        b.feed(bytes);
        b.due("no more", b.come(1), Bench.ILLEGAL_STATE);
        // by TWIN: 29 more, then it is told
        b.begin("main{int i=0;try{while(true){if(twin==0)return 1;i=i+1;}}catch(e){return e*100-i;}}");
        for (int i = 0; i < 300 && b.x.traveller(0, 0, 0) == 0; i++) {
            b.step(0, 5);
        }
        b.due("twenty-nine", b.x.traveller(0, 0, 6), -429);
        b.due("ever", b.x.count(2), 30);
    }

    private static String printing(int n) {
        return "main{int i=0;while(i<" + n + "){i=i+1;print i*7;}while(true)1;}";
    }

    /** "LINES (ints that were printed, the first 60 are kept, more are counted)". */
    private static void linesKept(Bench b) {
        for (int n : new int[] {0, 1, 59, 60, 61, 62, 130}) {
            b.begin(printing(n));
            for (int i = 0; i < 5; i++) {
                b.step(0, 500);
            }
            b.due("counted", b.x.traveller(0, 0, 4), n);
            for (int i : new int[] {0, 1, 58, 59, 60, 61, 129, 130, -1, Integer.MAX_VALUE, Integer.MIN_VALUE}) {
                b.due("line " + i, b.x.line(0, 0, i), i >= 0 && i < n && i < 60 ? (i + 1) * 7 : 0);
            }
        }
    }

    private static byte[] counted(Bench b, int steps, int lines, int place) {
        Bytes all = new Bytes();
        all.nums(0, 0, b.x.program(0, 3), 0, steps, 0, 0, lines);
        for (int i = 0; i < Math.min(60, lines); i++) {
            all.nums(i);
        }
        return all.nums(1, 0, place, 0).packed();
    }

    /** "(LINES and steps are counted up to 2147483647, and stay there)". */
    private static void stepsCounted(Bench b) {
        int most = Integer.MAX_VALUE;
        b.begin("main{while(true)print 1;}");
        int[][] all = {{most - 2, most - 2}, {most - 1, most - 1}, {most, most}, {0, 0}, {0, 59}, {0, 60}, {0, 61}};
        for (int i = 0; i < all.length; i++) {
            b.feed(counted(b, all[i][0], all[i][1], 0));
            b.due("come", b.come(1 + i % 2), i + 1);
        }
        // NUMBER, UNLESS, NUMBER, PRINT, JUMP
        int made = b.step(1, 5) + b.step(2, 5);
        b.due("all steps are made", made, 5 * all.length);
        for (int i = 0; i < all.length; i++) {
            b.due("steps", b.x.traveller(i + 1, 1 + i % 2, 1), (int) Math.min((long) most, all[i][0] + 5L));
            b.due("LINES", b.x.traveller(i + 1, 1 + i % 2, 4), (int) Math.min((long) most, all[i][1] + 1L));
        }
        b.due("the sixtieth", b.x.line(5, 1, 59), 1);
        b.due("no more is kept", b.x.line(6, 2, 60), 0);
        b.due("as it came", b.x.line(7, 1, 59), 59);
        b.step(1, 5);
        b.due("stays", b.x.traveller(1, 1, 1), most);
        b.due("goes up", b.x.traveller(1, 1, 4), most);
        b.step(1, 5);
        b.due("stays", b.x.traveller(1, 1, 4), most);
        // counted ahead of what it does, also if something is told
        b.fails("main{raise 1;}", 1);
        b.due("steps", b.x.traveller(0, 0, 1), 2);
        b.fails("main{1/0;}", -3);
        b.due("steps", b.x.traveller(0, 0, 1), 3);
        b.begin("main{go 1;while(true)1;}");
        b.due("GO once", b.step(0, 9), 2);
        b.due("GO once", b.step(0, 9), 0);
        b.due("steps", b.x.traveller(0, 0, 1), 2);
        b.settle(0, 1);
        b.due("steps", b.x.traveller(0, 1, 1), 2);
        b.due("step", b.step(1, 1), 1);
        b.due("steps", b.x.traveller(0, 1, 1), 3);
    }

    /** "Numbers wrap; / and % towards 0." */
    private static void wraps(Bench b) {
        String most = "2147483647";
        String least = "(-2147483647-1)";
        b.answers("main{return " + most + "+1;}", Integer.MIN_VALUE);
        b.answers("main{return " + most + "+0;}", Integer.MAX_VALUE);
        b.answers("main{return " + least + "-1;}", Integer.MAX_VALUE);
        b.answers("main{return -" + least + ";}", Integer.MIN_VALUE);
        b.answers("main{return " + least + "/-1;}", Integer.MIN_VALUE);
        b.answers("main{return " + least + "%-1;}", 0);
        b.answers("main{return " + least + "*-1;}", Integer.MIN_VALUE);
        b.answers("main{return " + most + "*" + most + ";}", 1);
        b.answers("main{return 65536*32768;}", Integer.MIN_VALUE);
        b.answers("main{return 65536*65536;}", 0);
        int[][] pairs = {{7, 2}, {-7, 2}, {7, -2}, {-7, -2}, {1, 2}, {-1, 2}, {6, 3}, {-6, 3}, {0, 5}};
        for (int[] p : pairs) {
            b.answers("main{return (" + p[0] + ")/(" + p[1] + ");}", p[0] / p[1]);
            b.answers("main{return (" + p[0] + ")%(" + p[1] + ");}", p[0] % p[1]);
        }
        String[] signs = {"<", "<=", ">", ">=", "==", "!="};
        int[][] two = {{1, 2}, {2, 2}, {3, 2}};
        boolean[][] want = {{true, false, false}, {true, true, false}, {false, false, true}, {false, true, true}, {false, true, false},
            {true, false, true}};
        for (int i = 0; i < signs.length; i++) {
            for (int k = 0; k < two.length; k++) {
                b.answers("main{if(" + two[k][0] + signs[i] + two[k][1] + ")return 1;return 2;}", want[i][k] ? 1 : 2);
            }
            b.answers("main{if(" + least + signs[i] + most + ")return 1;return 2;}", want[i][0] ? 1 : 2);
        }
    }

    /** "true (1), false (0)": whatever makes a bool makes one of these two. */
    private static void trueIsOne(Bench b) {
        String[] yes = {"true", "1<2", "1<=1", "2>1", "2>=2", "3==3", "3!=4", "!f", "t&&t", "t||f", "f||t", "c==c", "c!=null", "null==d", "g==g", "g!=h", "r!=null",
            "t==t", "t!=f", "go here", "c.yes()", "g.yes()", "c.same(t)", "g.same(t)", "g.same(1<2)"};
        String[] no = {"false", "2<1", "2<=1", "1>1", "1>=2", "3==4", "3!=3", "!t", "t&&f", "f&&t", "f||f", "c!=c", "c==null", "null!=d", "g!=g", "g==h", "r==null",
            "t==f", "t!=t", "!go here", "!c.yes()", "!g.yes()", "c.same(f)", "g.same(f)", "g.same(2<1)"};
        String head = "class C{bool w;bool yes(){return true;}bool same(bool x){w=x;return x;}}main{bool t=true;bool f=false;C c=new C;C d=null;far C g=pin c;"
            + "far C h=null;int[] r=new int[1];";
        for (int i = 0; i < yes.length; i++) {
            b.begin(head + "bool y=" + yes[i] + ";bool n=" + no[i] + ";c.w=y;while(true)1;}");
            b.step(0, 100);
            b.due(yes[i], b.x.value(0, 0, 0, 7), 1);
            b.due(no[i], b.x.value(0, 0, 0, 8), 0);
            b.due("in a field", b.x.cell(0, 0, 0, 0), 1);
            b.due("it can be told apart", b.x.traveller(0, 0, 0), 0);
        }
        b.due("of the THING", b.x.thing(0, 0, 0), 0);
        // from afar, and behind GO
        b.begin(head + "bool y=go 1;bool z=g.same(1<2);bool n=g.same(2<1);bool m=go 0;while(true)1;}");
        b.step(0, 50);
        b.settle(0, 1);
        for (int i = 0; i < 3; i++) {
            b.step(1, 50);
            b.settle(0, 1);
        }
        b.step(0, 50);
        int[] want = {1, 1, 0, 1};
        for (int k = 0; k < want.length; k++) {
            b.due("slot " + k, b.x.value(0, 0, 0, 7 + k), want[k]);
        }
    }

    /** "-1 null ahead of . [ or .length": asked when all that stands there was done, ahead of what else could be told. */
    private static void nulls(Bench b) {
        String c = "class C{int v;C n;int m(){return 1;}}main{int z=0;C c=null;far C f=null;int[] r=null;";
        for (String s : new String[] {"c.v;", "c.n;", "c.v=1;", "c.m();", "f.m();", "r[0];", "r[0]=1;", "r.length;", "pin c;", "r[-1];",
            "r[100]=1;", "c.n.n;", "c.n.v=1;"}) {
            b.fails(c + s + "}", -1);
            b.fails(c + "try{print 1;}catch(e){}" + s + "}", -1, 1);
        }
        for (String s : new String[] {"c.v=1/z;", "r[1/z];", "r[1/z]=1;", "r[0]=1/z;", "r[1]=1/z+c.v;"}) {
            b.fails(c + s + "}", -3);
        }
        b.answers(c + "c=new C;r=new int[1];c.v=1;c.n=c;r[0]=c.n.v+c.m()+r.length;return r[0];}", 3);
        // null is no fault where nothing is behind it
        b.answers(c + "C d=c;if(d==c&&c==null&&f==null&&r==null)return 5;}", 5);
    }

    /** "-2 an index that is not within". */
    private static void indexes(Bench b) {
        for (int length : new int[] {0, 1, 2, 99, 100}) {
            for (int i : new int[] {-2147483647, -1, 0, 1, length - 1, length, length + 1, 2147483647}) {
                String text = "main{int[] r=new int[" + length + "];int i=" + i + ";";
                boolean within = i >= 0 && i < length;
                if (within) {
                    b.answers(text + "r[i]=7;return r[i];}", 7);
                } else {
                    b.fails(text + "return r[i];}", -2);
                    b.fails(text + "r[i]=7;return 1;}", -2);
                }
            }
        }
        b.fails("main{int[] r=new int[2];return r[-2147483647-1];}", -2);
        // each has its own cells: the neighbours stay
        b.answers("main{int[] q=new int[2];int[] r=new int[2];int[] s=new int[2];r[0]=5;r[1]=6;"
            + "return q[0]+q[1]+10*s[0]+10*s[1]+100*r[0]+1000*r[1];}", 6500);
    }

    /** "or a length below 0"; "a ROW of more than 100". */
    private static void lengths(Bench b) {
        for (int n : new int[] {0, 1, 99, 100}) {
            b.answers("main{int n=" + n + ";return new int[n].length;}", n);
        }
        for (int n : new int[] {-1, -2, -100, -2147483647}) {
            b.fails("main{int n=" + n + ";new int[n];}", -2);
        }
        b.fails("main{new int[-2147483647-1];}", -2);
        for (int n : new int[] {101, 102, 300, 301, 2147483647}) {
            b.fails("main{int n=" + n + ";new int[n];}", -4);
        }
    }

    /** "-3 / or % by 0". */
    private static void divisors(Bench b) {
        for (String sign : new String[] {"/", "%"}) {
            b.fails("main{int z=0;return 5" + sign + "z;}", -3);
            b.fails("main{int z=0;return 0" + sign + "z;}", -3);
            b.fails("main{int z=0;return (-2147483647-1)" + sign + "z;}", -3);
            b.answers("main{int z=0;try{return 5" + sign + "z;}catch(e){return e;}}", -3);
        }
        b.answers("main{int z=1;return 5/z+5%z;}", 5);
        b.answers("main{int z=-1;return 5/z+5%z;}", -5);
    }

    /** "-5 a host that is none (go; here's own answers true at once)". */
    private static void goals(Bench b) {
        for (int g : new int[] {-2147483647, -2, -1, 5, 6, 2147483647}) {
            b.fails("main{go " + g + ";}", -5);
            b.due("MOVES", b.x.traveller(0, 0, 2), 0);
            b.due("kept", b.x.host(0, 4), 2);
        }
        for (int h = 0; h < 5; h++) {
            for (int g = 0; g < 5; g++) {
                b.fresh();
                b.read("main{if(go " + g + ")return 3;return 4;}");
                b.x.give(h, 0);
                b.start(0, h);
                b.step(h, 9);
                b.due("state", b.x.traveller(0, h, 0), h == g ? 7 : 1);
                b.due("end", b.x.traveller(0, h, 6), h == g ? 3 : 0);
                b.due("MOVES", b.x.traveller(0, h, 2), h == g ? 0 : 1);
                b.due("kept", b.x.host(h, 4), h == g ? 2 : 3);
                b.due("OFFER", b.x.count(3), h == g ? 0 : 1);
                b.due("where", b.x.traveller(0, h, 7), h == g ? -1 : g);
            }
        }
    }

    /** "RAISE tells the number." */
    private static void raised(Bench b) {
        for (int n : new int[] {0, 1, -1, -4, 7, 2147483647, -2147483647}) {
            b.fails("main{raise " + n + ";}", n);
            b.answers("main{try{raise " + n + ";}catch(e){return e;}return 5;}", n);
        }
    }

    /** "To TELL: the uppermost frame that has a HANDLER for its place (of frames below: the place of their CALL) goes on there". */
    private static void whoHandles(Bench b) {
        String m = "class C{int m(int k){if(k==0)raise 9;return m(k-1);}int n(int k){try{return m(k);}catch(e){return e*10;}}}";
        for (int k : new int[] {0, 1, 5, 8}) {
            b.answers(m + "main{try{return new C.n(" + k + ");}catch(e){return e+1;}}", 90);
            b.answers(m + "main{try{return new C.m(" + k + ");}catch(e){return e+1;}}", 10);
            b.fails(m + "main{return new C.m(" + k + ");}", 9);
        }
        // the first and the last instruction of a try have the HANDLER, that ahead of it and that behind it have not
        b.answers("main{int z=0;try{1/z;}catch(e){return 4;}}", 4);
        b.fails("main{int z=0;1/z;try{1;}catch(e){return 4;}}", -3);
        b.fails("main{int z=0;try{1;}catch(e){return 4;}1/z;}", -3);
        b.fails("main{int z=0;try{raise 1;}catch(e){1/z;}}", -3);
        b.answers("main{try{raise 1;}catch(e){try{raise 2;}catch(f){return e*10+f;}}}", 12);
        // CALL as the last one of its try: the place behind it has no HANDLER, its own has
        b.answers("class C{int m(){raise 3;}}main{try{new C.m();}catch(e){return e;}}", 3);
        b.fails("class C{int m(){raise 3;}}main{try{1;}catch(e){return 7;}new C.m();}", 3);
        // that number alone is on the stack, frames above are gone
        b.begin("class C{int m(int k){if(k==0)raise 9;return 1+m(k-1);}}main{int a=5;try{a=1+(2+(3+new C.m(4)));}catch(e){print e;}"
            + "while(true)1;}");
        for (int i = 0; i < 200 && b.x.frame(0, 0, b.x.traveller(0, 0, 5) - 1, 0) + b.x.instruction(0, b.x.frame(0, 0,
            b.x.traveller(0, 0, 5) - 1, 1), 0) != 22; i++) {
            b.step(0, 1);
        }
        b.due("frames", b.x.traveller(0, 0, 5), 6);
        b.due("at RAISE", b.x.instruction(0, b.x.frame(0, 0, 5, 1), 0), 22);
        b.step(0, 1);
        b.due("frames above are gone", b.x.traveller(0, 0, 5), 1);
        b.due("stack", b.x.frame(0, 0, 0, 3), 1);
        b.due("that number", b.x.value(0, 0, 0, 2), 9);
        b.due("the HANDLER stores it", b.x.instruction(0, b.x.frame(0, 0, 0, 1), 0), 3);
        b.due("slots stay", b.x.value(0, 0, 0, 0), 5);
    }

    /** "Fields and LOCALS begin as 0, false, null (LOCALS of a method at its beginning)." */
    private static void beginnings(Bench b) {
        String text = "class C{int m(bool first){int a=7;if(first){int c=8;bool t=true;C n=this;int[] r=new int[3];far C f=pin this;}"
            + "while(true)1;}int n(){try{m(true);}catch(e){}return m(false);}}main{try{new C.m(true);}catch(e){}new C.m(false);}";
        b.begin(text.replace("while(true)1;", "if(first)raise 1;while(true)1;"));
        b.step(0, 500);
        b.due("frames", b.x.traveller(0, 0, 5), 2);
        // this, first, a, c, t, n, r, f: what lay there before is not seen
        int[] want = {0, 0, 7, 0, 0, -1, -1, -1};
        for (int k = 0; k < want.length; k++) {
            b.due("slot " + k, b.x.value(0, 0, 1, k), want[k]);
        }
        b.answers("class C{int a;bool w;C n;int[] r;far C f;}main{int i=0;while(i<60){C c=new C;"
            + "if(c.a!=0||c.w||c.n!=null||c.r!=null||c.f!=null)return 1;c.a=5;c.w=true;c.n=c;c.r=new int[2];i=i+1;}return 2;}", 2);
        // where another traveller was, one begins as anywhere
        b.begin("class C{}main{int i=5;bool t=true;C c=new C;int[] r=new int[3];far C f=pin c;while(true){go 1;}}");
        b.step(0, 50);
        b.settle(0, 1);
        b.due("it is away", b.x.host(0, 1), 0);
        b.due("start", b.start(0, 0), 1);
        int[] begin = {0, 0, -1, -1, -1};
        for (int k = 0; k < begin.length; k++) {
            b.due("slot " + k, b.x.value(1, 0, 0, k), begin[k]);
        }
        // a LOCAL in a loop has its E each time, not its beginning
        b.answers("main{int i=0;int s=0;while(i<3){int a=i;s=s*10+a;a=9;i=i+1;}return s;}", 12);
    }

    /** "ROOM: more than 12 frames"; "CALL and FAR: null (-1) is asked first." */
    private static void frames(Bench b) {
        String m = "class C{C z;far C f;int m(int k){if(k==0)return 0;return 1+m(k-1);}int n(int k){if(k>0)return n(k-1);return z.n(1);}"
            + "int q(int k){if(k>0)return q(k-1);return f.m(1);}}";
        // main is one, m(k) has k + 1
        b.answers(m + "main{return new C.m(9);}", 9);
        b.answers(m + "main{return new C.m(10);}", 10);
        b.fails(m + "main{return new C.m(11);}", -4);
        b.fails(m + "main{return new C.m(12);}", -4);
        b.fails(m + "main{return new C.n(9);}", -1);
        b.fails(m + "main{return new C.n(10);}", -1);
        b.fails(m + "main{return new C.n(11);}", -4);
        b.fails(m + "main{return new C.q(10);}", -1);
        // FAR needs no frame of the caller's
        b.answers(m.replace("int q(int k){", "int q(int k){f=pin new C;") + "main{return new C.q(10);}", 1);
        b.begin(m + "main{return new C.m(10);}");
        int most = 0;
        for (int i = 0; i < 100; i++) {
            b.step(0, 2);
            most = Math.max(most, b.x.traveller(0, 0, 5));
        }
        b.due("twelve at most", most, 12);
    }

    /** "40 OBJECTS and ROWS that can be reached (.., with the new one)". */
    private static void objects(Bench b) {
        String head = "class C{C n;int[] r;}main{C c=null;int i=0;";
        for (int n : new int[] {38, 39, 40, 41, 42}) {
            String text = head + "while(i<" + n + "){C d=new C;d.n=c;c=d;i=i+1;}while(true)1;}";
            b.begin(text);
            b.step(0, 500);
            b.step(0, 500);
            b.due("state with " + n, b.x.traveller(0, 0, 0), n <= 40 ? 0 : 8);
            b.due("told", b.x.traveller(0, 0, 6), n <= 40 ? 0 : -4);
            b.due("reached", b.x.traveller(0, 0, 10), Math.min(n, 40));
        }
        // ROWS, also without elements, are among them
        for (int n : new int[] {18, 19, 20}) {
            String text = head + "while(i<" + n + "){C d=new C;d.r=new int[0];d.n=c;c=d;i=i+1;}int[] q=new int[0];return i;}";
            if (n <= 19) {
                b.answers(text, n);
            } else {
                b.fails(text, -4);
            }
        }
        b.fails(head + "while(true){C d=new C;d.r=new int[0];d.n=c;c=d;i=i+1;}}", -4);
        // as the handler lets go of some, there is ROOM again
        b.answers(head + "C d=null;while(i<100){try{d=new C;d.n=c;c=d;}catch(e){print i;c=null;d=null;}i=i+1;}return i;}", 100, 40, 81);
    }

    /** "or 300 fields and elements of these together". */
    private static void cells(Bench b) {
        for (int n : new int[] {99, 100}) {
            for (int last : new int[] {0, 1, 2}) {
                String text = "main{int[] a=new int[100];int[] c=new int[100];int[] d=new int[" + n + "];int[] e=new int[" + last + "];return 7;}";
                if (200 + n + last <= 300) {
                    b.answers(text, 7);
                } else {
                    b.fails(text, -4);
                }
            }
        }
        // fields count like elements
        String head = "class C{int a;int c;int d;}class E{}main{int[] a=new int[100];int[] c=new int[100];int[] d=new int[";
        b.answers(head + "96];C o=new C;E p=new E;return 7;}", 7);
        b.answers(head + "97];C o=new C;E p=new E;return 7;}", 7);
        b.fails(head + "98];C o=new C;E p=new E;return 7;}", -4);
        b.answers(head + "100];E p=new E;return 7;}", 7);
        b.fails(head + "100];C p=new C;return 7;}", -4);
        // what is told: a length below 0, then one above 100, then what is there already
        String full = "main{int[] a=new int[100];int[] c=new int[100];int[] d=new int[100];int n=";
        b.fails(full + "-1;new int[n];}", -2);
        b.fails(full + "101;new int[n];}", -4);
        b.fails(full + "1;new int[n];}", -4);
        b.answers(full + "0;new int[n];return 3;}", 3);
    }

    /** "(from slots and stacks of all frames and what these have ..)". */
    private static void reached(Bench b) {
        // three ROWS of 100 each: in a slot, on a stack, in a field, in a frame beneath
        b.fails("main{int[] a=new int[100];int[] c=new int[100];int[] d=new int[100];new int[1];}", -4);
        b.answers("main{int[] a=new int[100];int[] c=new int[100];int[] d=new int[100];d=null;new int[100];return 1;}", 1);
        b.answers("main{{int[] a=new int[100];}{int[] a=new int[100];}{int[] a=new int[100];}int i=0;try{new int[1];}catch(e){i=e;}return i;}", -4);
        b.fails("class C{int m(int[] a,int[] c,int[] d,int[] e){return 1;}}main{return new C.m(new int[100],new int[100],new int[100],"
            + "new int[1]);}", -4);
        b.answers("class C{int m(int[] a,int[] c,int[] d,int[] e){return 1;}}main{return new C.m(new int[100],new int[100],new int[100],"
            + "new int[0]);}", 1);
        b.fails("class C{C n;int[] r;}main{C c=new C;c.r=new int[98];c.n=new C;c.n.r=new int[98];c.n.n=new C;c.n.n.r=new int[98];new int[1];}",
            -4);
        b.answers("class C{C n;int[] r;}main{C c=new C;c.r=new int[98];c.n=new C;c.n.r=new int[98];c.n.n=new C;c.n.n.r=new int[98];"
            + "c.n=null;new int[100];return 1;}", 1);
        String under = "class C{int m(){return new int[1].length;}}main{int[] a=new int[100];int[] c=new int[100];int[] d=new int[100];";
        b.fails(under + "return new C.m();}", -4);
        b.answers(under + "d=null;return new C.m();}", 1);
        // a THING's copy is none of the traveller's
        b.answers("class C{int[] r;C n;}main{C c=new C;c.r=new int[98];c.n=new C;c.n.r=new int[98];far C f=pin c;c=null;"
            + "c=new C;c.r=new int[98];c.n=new C;c.n.r=new int[98];return 1;}", 1);
    }

    /** "PUT k, v, GET k: the host's BOARD, 20 keys at most (-4 for one more), 0 without one." */
    private static void boards(Bench b) {
        for (int n : new int[] {0, 1, 19, 20, 21}) {
            String text = "main{int i=0;while(i<" + n + "){put i*i-3,i+100;i=i+1;}return i;}";
            if (n <= 20) {
                b.answers(text, n);
            } else {
                b.fails(text, -4);
            }
            b.due("keys", b.x.host(0, 2), Math.min(n, 20));
            for (int i : new int[] {0, 1, 18, 19, 20, 21}) {
                b.due("key", b.x.board(0, i * i - 3), i < n && i < 20 ? i + 100 : 0);
            }
        }
        // with 20 there, those can be put again, and those that have 0 are keys, too
        b.answers("main{int i=0;while(i<20){put i,0;i=i+1;}put 0,5;put 19,6;try{put 20,7;}catch(e){return e*100+get 0+get 19+get 20;}}", -389);
        b.due("keys", b.x.host(0, 2), 20);
        for (String key : new String[] {"0", "-1", "2147483647", "(-2147483647-1)"}) {
            b.answers("main{int a=get " + key + ";put " + key + ",9;return a*10+get " + key + ";}", 9);
        }
        b.due("the least key", b.x.board(0, Integer.MIN_VALUE), 9);
        b.due("none", b.x.board(0, Integer.MAX_VALUE), 0);
        // each host has its own
        b.begin("main{put 1,here+5;go 1;put 1,here+5;go 2;return get 1;}");
        b.step(0, 20);
        b.settle(0, 1);
        b.step(1, 20);
        b.settle(1, 2);
        b.step(2, 20);
        b.due("of 0", b.x.board(0, 1), 5);
        b.due("of 1", b.x.board(1, 1), 6);
        b.due("end", b.x.traveller(0, 2, 6), 0);
    }

    /** "TWIN: a new traveller, the last one there (-4 .. if 8 are there as by NO 2), all as this one, LINES too". */
    private static void twins(Bench b) {
        String text = "main{int t=0;if(self==0){try{t=twin;}catch(e){t=e;}print t;}while(true)1;}";
        for (int n = 1; n <= 8; n++) {
            b.begin(text);
            for (int i = 1; i < n; i++) {
                b.start(0, 0);
            }
            b.step(0, 20);
            b.due("with " + n, b.x.line(0, 0, 0), n < 8 ? n : -4);
            b.due("travellers", b.x.host(0, 1), n < 8 ? n + 1 : 8);
            b.due("ever", b.x.count(2), n < 8 ? n + 1 : 8);
            b.due("the last one", b.x.at(0, n), n < 8 ? n : -1);
            b.due("not kept", b.x.host(0, 4), n + 1);
        }
        b.begin("class C{int v;}main{int a=3;C c=new C;c.v=4;print 11;int t=1000+twin;print t;c.v=c.v+t;while(true)1;}");
        // a two, c two, v three, print two; 1000, TWIN
        b.due("steps", b.step(0, 11), 22);
        b.due("steps", b.x.traveller(0, 0, 1), 11);
        b.due("its steps go on", b.x.traveller(1, 0, 1), 11 + 11);
        b.due("place", b.x.frame(0, 0, 0, 1), 11);
        b.due("the old one's number", b.x.value(0, 0, 0, 4), 1);
        b.due("LINES too", b.x.line(1, 0, 0), 11);
        b.step(0, 20);
        b.due("old", b.x.line(0, 0, 1), 1001);
        b.due("new", b.x.line(1, 0, 1), 1000);
        b.due("its own heap", b.x.cell(0, 0, 0, 0), 1005);
        b.due("its own heap", b.x.cell(1, 0, 0, 0), 1004);
        b.due("its own slot", b.x.value(1, 0, 0, 0), 3);
    }

    /** "there are 8 travellers (all states but 3, 7, 8)": ENDED and FAILED ones are not among them. */
    private static void whoCountsAmongEight(Bench b) {
        b.fresh();
        b.read("main{if(self==0)return 1;if(self==1)raise 2;while(true)1;}");
        b.x.give(0, 0);
        for (int t = 0; t < 8; t++) {
            b.due("start", b.start(0, 0), t);
        }
        b.due("a ninth", b.start(0, 0), Bench.ILLEGAL_STATE);
        b.step(0, 12);
        b.due("ENDED", b.x.traveller(0, 0, 0), 7);
        b.due("FAILED", b.x.traveller(1, 0, 0), 8);
        b.due("two more", b.start(0, 0), 8);
        b.due("two more", b.start(0, 0), 9);
        b.due("no third", b.start(0, 0), Bench.ILLEGAL_STATE);
        b.due("in all states", b.x.host(0, 1), 10);
        b.due("a refused one has no number", b.x.count(2), 10);
        // OFFERED and SENT ones are among them, GONE ones are not
        b.begin("main{if(self==0)go 1;while(true)1;}");
        for (int t = 1; t < 8; t++) {
            b.start(0, 0);
        }
        b.step(0, 9);
        b.due("OFFERED", b.start(0, 0), Bench.ILLEGAL_STATE);
        b.x.pass(0, 1);
        b.x.pass(1, 0);
        b.due("SENT", b.x.traveller(0, 0, 0), 2);
        b.due("SENT", b.start(0, 0), Bench.ILLEGAL_STATE);
        // COMING and HERE WHOLE ones are among those of the other host
        for (int t = 8; t < 15; t++) {
            b.due("start", b.start(0, 1), t);
        }
        b.due("COMING", b.start(0, 1), Bench.ILLEGAL_STATE);
        b.passAll(0, 1);
        b.due("HERE WHOLE", b.x.traveller(0, 1, 0), 5);
        b.due("HERE WHOLE", b.start(0, 1), Bench.ILLEGAL_STATE);
        b.x.pass(1, 0);
        b.due("GONE", b.x.traveller(0, 0, 0), 3);
        b.due("GONE", b.start(0, 0), 15);
        b.due("no more", b.start(0, 0), Bench.ILLEGAL_STATE);
        // WAITING ones are among them
        b.begin("class C{int m(){return 1;}}main{far C f=null;if(self==0){f=pin new C;go 1;f.m();}while(true)1;}");
        b.step(0, 20);
        b.settle(0, 1);
        b.step(1, 20);
        b.due("WAITING", b.x.traveller(0, 1, 0), 6);
        for (int t = 1; t < 8; t++) {
            b.due("start", b.start(0, 1), t);
        }
        b.due("WAITING", b.start(0, 1), Bench.ILLEGAL_STATE);
    }

    /** "Each traveller that is ACTING at host h, in their order (those that come meanwhile, too), makes n steps, or as many as it can". */
    private static void manyWhoStep(Bench b) {
        b.begin("main{print get 1;put 1,get 1+1;while(self!=2)1;}");
        b.start(0, 0);
        b.start(0, 0);
        b.due("none", b.step(0, 0), 0);
        b.due("as many as it can", b.step(0, 500), 500 + 500 + 15);
        for (int t = 0; t < 3; t++) {
            b.due("in their order", b.x.line(t, 0, 0), t);
        }
        b.due("ENDED ones make none", b.step(0, 1), 2);
        // twins of twins, in the same call
        b.begin("main{twin;twin;return self;}");
        b.due("steps", b.step(0, 500), 6 + 5 + 3 + 3);
        b.due("four", b.x.host(0, 1), 4);
        int[] ends = {0, 1, 2, 3};
        for (int t : ends) {
            b.due("end", b.x.traveller(t, 0, 6), t);
        }
        b.begin("main{twin;while(true)1;}");
        b.due("one step: the new one, too", b.step(0, 1), 2);
        b.due("the first", b.x.traveller(0, 0, 1), 1);
        b.due("the second", b.x.traveller(1, 0, 1), 2);
    }
}
