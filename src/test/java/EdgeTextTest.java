/** Terms 1, TEXT: the sentences that name an edge, each at the edge itself and on both sides of it. */
public final class EdgeTextTest {
    private static final String[] WORDS = ("bool catch class else false far get go here if int length main new null pin print put raise"
        + " return self this true try twin while").split(" ");
    private static final String SIGN_BYTES = "{}()[];,.=!<>+-*/%";

    public static void main(String[] args) {
        Bench b = new Bench();
        tapes(b);
        lines(b);
        bytes(b);
        names(b);
        words(b);
        numbers(b);
        comments(b);
        manyTokens(b);
        alikeNames(b);
        signsInTheirPlaces(b);
        parameters(b);
        members(b);
        localsAlone(b);
        reach(b);
        onceOnly(b);
        aheadOfSet(b);
        openStatements(b);
        openExpressions(b);
        openUnits(b);
        firstOfTheText(b);
        firstOfTheRules(b);
        sameToken(b);
        ofNoKnownType(b);
        ofItsTypeAllTheSame(b);
        argumentsInAll(b);
        callsOfThings(b);
        thisInMain(b);
        fieldOfAThing(b);
        limitsOfClasses(b);
        fullClasses(b);
        limitsOfMethods(b);
        limitsOfCode(b);
        limitOfPrograms(b);
        textsInTurn(b);
        b.end();
    }

    private static String times(String s, int n) {
        return s.repeat(n);
    }

    /** "A TAPE has at most 4,000 bytes." The last one of them is read like any other. */
    private static void tapes(Bench b) {
        b.fine("main{}" + times(" ", 3993) + "\n");
        b.fine(times(" ", 3994) + "main{}");
        b.fault(times(" ", 3994) + "main{;", 2, 1);
        b.fault("main{}" + times(" ", 3993) + "}", 2, 1);
        b.fault("main{}" + times(" ", 3993) + "#", 1, 1);
        b.fresh();
        b.feed(Bench.bytesOf(times(" ", 3980)));
        b.due("3,980 and twenty", b.x.feed(0, 0, 0, 0, 0), 4000);
        b.due("4,000 and twenty", b.x.feed(0, 0, 0, 0, 0), -1);
        b.due("as many", b.x.count(0), 4000);
        b.due("back", b.x.back(4000), 0);
        b.due("back of none", b.x.back(1), -1);
        b.due("the least", b.x.back(Integer.MIN_VALUE), -1);
        b.feed(Bench.bytesOf(times(" ", 3981)));
        b.due("3,981 and twenty", b.x.feed(0, 0, 0, 0, 0), -1);
        b.due("as many", b.x.count(0), 3981);
    }

    /** "LINES are counted from 1 on by the bytes 10." "(of the end: one more than there are 10s)" */
    private static void lines(Bench b) {
        for (int n : new int[] {0, 1, 2, 15, 16, 255, 256, 3990}) {
            b.fault(times("\n", n) + "#", 1, n + 1);
            b.fault(times("\n", n), 2, n + 1);
            b.fault("main" + times("\n", n) + "{x;}", 5, n + 1);
        }
        b.fault("main{//\n//\nx;}", 5, 3);
        b.fault("main{}\n\n}\n\n", 2, 3);
        b.fault("main{\n\n", 2, 3);
        b.fault("main{//", 2, 1);
        b.fault("main{//\n", 2, 2);
        b.fault("main{//\n//", 2, 2);
    }

    private static boolean isLetter(int v) {
        return v >= 'a' && v <= 'z' || v >= 'A' && v <= 'Z';
    }

    private static boolean isDigit(int v) {
        return v >= '0' && v <= '9';
    }

    private static boolean isBlank(int v) {
        return v == 9 || v == 10 || v == 32;
    }

    /** "between them blanks (9, 10, 32)", "NAMES: a letter, then letters, digits, _", SIGNS: each of the 256 bytes. */
    private static void bytes(Bench b) {
        for (int v = 0; v < 256; v++) {
            char c = (char) v;
            boolean sign = SIGN_BYTES.indexOf(v) >= 0;
            int line = v == 10 ? 2 : 1;
            // behind all
            int fault = isBlank(v) ? 0 : sign || isLetter(v) || isDigit(v) ? 2 : 1;
            textDue(b, "main{}" + c, fault, 1);
            // behind the first letter of a NAME
            fault = isBlank(v) || isLetter(v) || isDigit(v) || v == '_' ? 0 : sign ? 2 : 1;
            textDue(b, "main{int a" + c + "=1;}", fault, 1);
            // as that letter
            fault = isLetter(v) ? 0 : isBlank(v) || sign || isDigit(v) ? 2 : 1;
            textDue(b, "main{int " + c + "=1;}", fault, line);
            // in a comment any byte but 10 may stand
            textDue(b, "main{//" + c + "}\n}", v == 10 ? 2 : 0, 3);
            // behind a number
            fault = isBlank(v) || isDigit(v) ? 0 : isLetter(v) || v == '_' ? 1 : sign ? 2 : 1;
            textDue(b, "main{print 1" + c + ";}", fault, 1);
        }
    }

    private static void textDue(Bench b, String text, int fault, int line) {
        if (fault == 0) {
            b.fine(text);
        } else {
            b.fault(text, fault, line);
        }
    }

    /** "NAMES: .. 12 at most." */
    private static void names(Bench b) {
        String[] spots = {"class @{}main{}", "class C{int @;}main{}", "class C{int @(){}}main{}", "class C{int m(int @){}}main{}",
            "main{int @=1;}", "main{try{}catch(@){}}"};
        for (String spot : spots) {
            b.fine(spot.replace("@", "a"));
            b.fine(spot.replace("@", "abcdefghij_"));
            b.fine(spot.replace("@", "Abcdefghij_9"));
            b.fault(spot.replace("@", "\nabcdefghijk_9"), 1, 2);
            b.fault(spot.replace("@", "\nabcdefghijklabcdefghijkl"), 1, 2);
        }
        // all twelve count, and the last one is looked at
        b.fine("main{int abcdefghijkl=1;int abcdefghijkm=2;int abcdefghijk=3;}");
        b.fault("main{int abcdefghijkl=1;\nint abcdefghijkl=2;}", 4, 2);
        b.fine("main{int a=1;int A=2;int a_=3;int a0=4;int a00=5;}");
    }

    /** "WORDS: .." are no NAMES; what is longer, shorter or has another letter is one. */
    private static void words(Bench b) {
        b.due("words", WORDS.length, 26);
        for (String word : WORDS) {
            b.fault("main{int\n" + word + "=1;}", 2, 2);
            b.fault("class\n" + word + "{}main{}", 2, 2);
            b.fault("class C{int\n" + word + ";}main{}", 2, 2);
            b.fine("main{int " + word + "s=1;}");
            b.fine("main{int " + word + "_=1;}");
            b.fine("main{int " + Character.toUpperCase(word.charAt(0)) + word.substring(1) + "=1;}");
            String shorter = word.substring(0, word.length() - 1);
            b.fine("main{int " + shorter + "=1;}");
        }
    }

    /** "NUMBERS: digits, 2147483647 at most, no letter, digit or _ behind." */
    private static void numbers(Bench b) {
        for (String good : new String[] {"0", "00", "9", "2147483646", "2147483647", "02147483647", "000000000000000000002147483647"}) {
            b.fine("main{return " + good + ";}");
            b.due("its number", b.x.instruction(0, 0, 1), (int) Long.parseLong(good));
        }
        for (String bad : new String[] {"2147483648", "2147483650", "3000000000", "4294967295", "4294967296", "4294967297",
            "9223372036854775807", "9223372036854775808", "18446744073709551615", "18446744073709551617", "21474836470",
            "99999999999999999999999999999999999999", "0x1", "1a", "1Z", "1_", "1e5", "12345a", "1main"}) {
            b.fault("main{return\n" + bad + ";}", 1, 2);
        }
        b.fault("main{return 1\na;}", 2, 2);
        b.fault("main{return 1 2;}", 2, 1);
        b.fault("main{return -2147483648;}", 1, 1);
        b.fine("main{return -2147483647-1;}");
    }

    /** "comments (// up to a 10 or the end)". */
    private static void comments(Bench b) {
        b.fine("main{}//");
        b.fine("main{}///");
        b.fine("//\nmain//{\n{//}\n}//");
        b.fine("main{int a=4//2;\n/2;}");
        b.fault("main{int a=4/ /2;}", 2, 1);
        b.fault("main{int a=4/\n/2;}", 2, 2);
        b.fault("/", 2, 1);
        b.fault("main{}/", 2, 1);
        b.fault("main{}/*", 2, 1);
        b.fault("//main{}", 2, 1);
        b.fine("main{int a=1;//int a=1;\n}");
        b.fault("main{int a=1//;\n}", 2, 2);
    }

    /** As many tokens, letters of NAMES, classes, members and parameters as 4,000 bytes can tell. */
    private static void manyTokens(Bench b) {
        b.fault(times("(", 4000), 2, 1);
        b.fault(times("}", 3999) + "\n", 2, 1);
        b.fault("main{" + times("1;", 1997), 2, 1);
        b.fault("main{" + times("1;", 1997) + "}", 9, 0);
        StringBuilder names = new StringBuilder();
        for (int i = 0; i < 307; i++) {
            names.append("abcdefghi").append(100 + i).append(' ');
        }
        b.fault(names.toString(), 2, 1);
        StringBuilder shorts = new StringBuilder();
        for (int i = 0; i < 1333; i++) {
            shorts.append((char) ('a' + i % 26)).append((char) (i / 26 % 2 == 0 ? 'A' + i / 52 : 'a' + i / 52)).append(' ');
        }
        b.fault(shorts.toString(), 2, 1);
        b.fault(times("class a{}", 443) + "main{}", 4, 1);
        b.fault("class a{" + times("a b;", 996) + "}main{}", 4, 1);
        b.fault("class a{" + times("a b(){}", 569) + "}main{}", 4, 1);
        b.fault("class a{" + times("a b(a c){}", 398) + "}main{}", 4, 1);
        b.fault("class a{int m(){" + times("a b=c;", 660) + "}}main{}", 5, 1);
    }

    /** NAMES are one if all their letters are: some that are easily mixed up. */
    private static void alikeNames(Bench b) {
        String[][] pairs = {{"Aa", "BB"}, {"AaAa", "BBBB"}, {"AaBB", "BBAa"}, {"ddngzk", "zlhhebmam"}, {"pcqulq", "voidaelks"}, {"ab", "ba"},
            {"a", "aa"}, {"a1", "a_1"}, {"abcdefghijkl", "abcdefghijkL"}};
        for (String[] p : pairs) {
            b.fault("main{int " + p[0] + "=1;\n" + p[1] + ";}", 5, 2);
            b.fault("main{int " + p[1] + "=1;\n" + p[0] + ";}", 5, 2);
            b.fine("main{int " + p[0] + "=1;int " + p[1] + "=2;" + p[0] + "=" + p[1] + ";}");
            b.fault("class " + p[0] + "{}main{\n" + p[1] + " a=null;}", 5, 2);
            b.fault("class C{int " + p[0] + "(){return " + p[0] + "();}int n(){return\n" + p[1] + "();}}main{}", 5, 2);
        }
    }

    private static final String HEAD = "class C{int v;bool w;C n;int[] r;far C f;int m(int k){}C o(C c){}bool p(){}}"
        + "main{C c=null;far C f=null;int i=0;bool t=true;int[] r=null;";

    /** "(Of no known TYPE, which fits everything, are: ..": what they are given to stands ahead of them, and has no fault. */
    private static void ofNoKnownType(Bench b) {
        String[] of5 = {"x", "x()", "x(1)", "c.x", "c.x()", "c.m", "c.v()", "f.x()", "f.v", "new D", "x.y", "x.y.z()", "x.length", "c.x.v", "c.x().y", "new D.v", "(x)",
            "f.v.w", "pin x", "pin c.x", "x.length.y"};
        String[] of6 = {"i.v", "i.m(1)", "t.v", "r.v", "r.m()", "null.v", "null.m()", "i.length", "c.length", "f.length", "t.length", "null.length", "i.v.w", "i.v.w()",
            "i.length.x", "pin 1", "pin r", "pin f", "pin null", "pin t", "pin i.v"};
        String[] wants = {"int a\n=\n", "bool a\n=\n", "C a\n=\n", "far C a\n=\n", "int[] a\n=\n", "i\n=\n", "\nprint\n", "\nreturn\n", "\nraise\n", "1\n+\n",
            "t\n&&\n", "1\n<\n", "c\n==\n", "null\n!=\n", "\nput 1,\n", "c.n\n=\n", "r[0]\n=\n"};
        for (String want : wants) {
            for (String x : of5) {
                b.fault(HEAD + want + x + ";}", 5, 3);
            }
            for (String x : of6) {
                b.fault(HEAD + want + x + ";}", 6, 3);
            }
        }
        for (String x : of5) {
            b.fault(HEAD + "\nif(\n" + x + ")1;}", 5, 3);
            b.fault(HEAD + "r\n[\n" + x + "];}", 5, 3);
            b.fault(HEAD + "\nnew int[\n" + x + "];}", 5, 3);
            b.fault(HEAD + "c.\nm(\n" + x + ");}", 5, 3);
            b.fault(HEAD + "c.\no(\n" + x + ");}", 5, 3);
        }
        // what is told to be of a TYPE with 5: a field, a parameter, what a method answers
        String late = "class C{int m(){@}\nD x;D y(){}int z(D d){}}main{}";
        for (String s : new String[] {"int a=x;", "bool a=x;", "x=1;", "x=true;", "x=null;", "x=this;", "print x;", "if(x)1;", "x.q=1;", "x.q();", "int a=y();", "y().z;",
            "z(1);", "z(true);", "z(null);", "z(this);", "z(x);", "x==1;", "x==true;", "x==this;", "x==null;", "x==x;", "-x;", "!x;", "x.length;", "x[0];", "pin x;", "return x;"}) {
            b.fault(late.replace("@", s), 5, 2);
        }
    }

    /** "All else has its TYPE, whatever is wrong in it": the fault is at what it is given to, which stands ahead. */
    private static void ofItsTypeAllTheSame(Bench b) {
        String[] ints = {"x[0]", "c[0]", "r[t]", "r[x]", "-x", "-t", "get x", "get t", "x+1", "1-t", "x*y", "t/x", "1%null", "c.m()", "c.m(1,2)", "c.m(t)", "c.m(x)",
            "f.m()", "f.m(t)"};
        String[] bools = {"!x", "!i", "go x", "go t", "x||t", "i||t", "x&&y", "x<1", "t>=1", "x==y", "i==t", "null==null", "x!=null", "f.p(1)", "c.p(x)"};
        String[] others = {"new int[x]", "new int[t]", "c.o()", "c.o(1)", "c.o(x)", "f.o(c)", "f.o()"};
        for (String e : ints) {
            b.fault(HEAD + "bool a\n=\n" + e + ";}", 6, 2);
            b.fault(HEAD + "C a\n=\n" + e + ";}", 6, 2);
            b.fault(HEAD + "\nif(\n" + e + ")1;}", 6, 2);
        }
        for (String e : bools) {
            b.fault(HEAD + "int a\n=\n" + e + ";}", 6, 2);
            b.fault(HEAD + "\nprint\n" + e + ";}", 6, 2);
        }
        for (String e : others) {
            b.fault(HEAD + "int a\n=\n" + e + ";}", 6, 2);
            b.fault(HEAD + "bool a\n=\n" + e + ";}", 6, 2);
            b.fault(HEAD + "far C a\n=\n" + e + ";}", 6, 2);
        }
        // with nothing wrong in it
        String[] goodInts = {"1", "i", "c.v", "r[0]", "r.length", "here", "self", "twin", "get 1", "-1", "1+2", "1-2", "1*2", "1/2", "1%2", "c.m(1)", "f.m(1)", "(i)"};
        String[] goodBools = {"true", "false", "t", "c.w", "!t", "go 1", "1<2", "1<=2", "1>2", "1>=2", "1==2", "1!=2", "t==t", "c==null", "null!=f", "t&&t", "t||t",
            "c.p()", "f.p()", "(t)"};
        String[] goodObjects = {"c", "c.n", "c.o(c)", "new C", "(c)"};
        String[] goodRows = {"r", "c.r", "new int[1]"};
        String[] goodThings = {"f", "c.f", "pin c", "pin new C"};
        String[][] all = {goodInts, goodBools, goodObjects, goodRows, goodThings, {"null"}};
        String[] types = {"int", "bool", "C", "int[]", "far C"};
        for (int is = 0; is < all.length; is++) {
            for (String e : all[is]) {
                for (int want = 0; want < types.length; want++) {
                    textDue(b, HEAD + types[want] + " a\n=\n" + e + ";}", is == want || is == 5 && want > 1 ? 0 : 6, 2);
                }
                textDue(b, HEAD + "\nprint\n" + e + ";}", is == 0 ? 0 : 6, 2);
                textDue(b, HEAD + "\nif(\n" + e + ")1;}", is == 1 ? 0 : 6, 2);
                textDue(b, HEAD + "\npin\n(" + e + ");}", is == 2 ? 0 : 6, 2);
                textDue(b, HEAD + "(" + e + ")\n[0];}", is == 3 ? 0 : 6, 2);
            }
        }
        b.fault(HEAD + "int[] a\n=new int[\nx];}", 5, 3);
        b.fault(HEAD + "C a\n=c.o(\nx);}", 5, 3);
    }

    /** "7 not as many ARGUMENTS as parameters, at the NAME". */
    private static void argumentsInAll(Bench b) {
        String[] told = {"", "int a", "int a,int c", "int a,int c,int d", "int a,int c,int d,int e"};
        String[] given = {"", "1", "1,2", "1,2,3", "1,2,3,4", "1,2,3,4,5", "1,2,3,4,5,6"};
        for (int n = 0; n < told.length; n++) {
            for (int k = 0; k < given.length; k++) {
                String[] calls = {"class C{int m(" + told[n] + "){}int q(){return\nm\n(" + given[k] + ");}}main{}",
                    "class C{int m(" + told[n] + "){}}main{C c=null;c.\nm\n(" + given[k] + ");}",
                    "class C{int m(" + told[n] + "){}}main{far C c=null;c.\nm\n(" + given[k] + ");}"};
                for (String call : calls) {
                    textDue(b, call, n == k ? 0 : 7, 2);
                }
            }
        }
    }

    /** "what is called of a THING: a parameter or what it answers is neither int nor bool, at the NAME". */
    private static void callsOfThings(Bench b) {
        String[] types = {"int", "bool", "int[]", "C", "far C"};
        String[] values = {"1", "true", "null", "null", "null"};
        for (int i = 0; i < types.length; i++) {
            textDue(b, "class C{" + types[i] + " m(){}}main{far C c=null;c.\nm();}", i < 2 ? 0 : 7, 2);
            for (int spot = 0; spot < 4; spot++) {
                StringBuilder told = new StringBuilder();
                StringBuilder given = new StringBuilder();
                for (int k = 0; k < 4; k++) {
                    told.append(k == 0 ? "" : ",").append(k == spot ? types[i] : "int").append(" p").append(k);
                    given.append(k == 0 ? "" : ",").append(k == spot ? values[i] : "1");
                }
                textDue(b, "class C{int m(" + told + "){}}main{far C c=null;c.\nm(" + given + ");}", i < 2 ? 0 : 7, 2);
                b.fine("class C{int m(" + told + "){}}main{C c=null;c.m(" + given + ");}");
            }
        }
    }

    /** "8 this in main, at it": it is of no known TYPE, which fits everything, also what stands ahead of it. */
    private static void thisInMain(Bench b) {
        for (String s : new String[] {"int a\n=\nthis;", "bool a\n=\nthis;", "\nprint\nthis;", "\nreturn\nthis;", "\nraise\nthis;", "\nput\nthis,1;",
            "\nif(\nthis)1;", "\nwhile(\nthis)1;", "\n-\nthis;", "\n!\nthis;", "\ngo\nthis;", "\nget\nthis;", "new C.\nm(\nthis);", "\nnew\nint[this];",
            "D d\n=\nthis;", "1\n+\nthis;", "true\n&&\nthis;", "null\n==\nthis;", "1\n<\nthis;", "far D f=\npin\nthis;", "int a=1;a\n=\nthis.b.c(1).d;",
            "int[] r=null;r\n[\nthis]=1;"}) {
            b.fault("class D{}class C{int m(int k){}}main{" + s + "}", 8, 3);
        }
        b.fine("class C{C m(){return this;}}main{}");
    }

    /** "a field of a THING: 5", and then it is of no known TYPE. */
    private static void fieldOfAThing(Bench b) {
        for (String s : new String[] {"bool t\n=f.\nv;", "C c\n=f.\nv;", "\nprint f.\nw;", "\n-f.\nw;", "\nif(f.\nv)1;", "\nreturn f.\nn;", "1\n+f.\nw;",
            "int i=1;i\n=f.\nw;", "new C.\nm(f.\nw);", "int j=0;j\n=f.\nn.v.q(1);"}) {
            b.fault("class C{int v;bool w;C n;int m(int k){}}main{far C f=null;" + s + "}", 5, 3);
        }
        b.fine("class C{int v;bool w;C n;int m(int k){}}main{far C f=null;f.m(1);}");
    }

    /** All twelve classes have their twelve fields, each of its own TYPE. */
    private static void fullClasses(Bench b) {
        StringBuilder text = new StringBuilder();
        for (int c = 0; c < 12; c++) {
            text.append("class K").append(c).append('{');
            for (int f = 0; f < 12; f++) {
                String type = f == c ? "int" : f == (c + 1) % 12 ? "bool" : f == (c + 2) % 12 ? "far K0" : "K" + (11 - c);
                text.append(type).append(" f").append(f).append(';');
            }
            text.append('}');
        }
        text.append("main{");
        for (int c = 0; c < 12; c++) {
            text.append("K").append(c).append(" a").append(c).append("=new K").append(c).append(";a").append(c).append(".f").append(c);
            text.append("=").append(100 + c).append(";a").append(c).append(".f").append((c + 1) % 12).append("=true;");
        }
        b.begin(text + "while(true)1;}");
        b.step(0, 200);
        b.due("classes", b.x.program(0, 0), 12);
        b.due("OBJECTS", b.x.traveller(0, 0, 10), 12);
        for (int c = 0; c < 12; c++) {
            b.due("class", b.x.cell(0, 0, c, -1), c);
            for (int f = 0; f < 12; f++) {
                b.due("class " + c + " field " + f, b.x.cell(0, 0, c, f), f == c ? 100 + c : f == (c + 1) % 12 ? 1 : -1);
            }
            b.due("no more", b.x.cell(0, 0, c, 12), 0);
        }
        byte[] bytes = b.packed(0, 0);
        b.feed(bytes);
        b.due("they come", b.come(1), 1);
        b.due("the last field", b.x.cell(1, 1, 11, 11), 111);
    }

    private static final String[] WHOLE = ("class C { int a ; bool t ; int [ ] r ; far C f ; C n ; int m ( int k , int [ ] q , far C g , bool u ) { return k ; } "
        + "C o ( ) { this . a = 1 ; return n ; } } class D { } main { C c = new C ; int i = 0 ; int [ ] r = new int [ 3 ] ; far C f = pin c ; "
        + "if ( i < 2 ) { i = ( 1 + 2 ) ; } else print r [ 0 ] ; while ( i == r [ r [ 1 ] ] ) i = c . m ( 1 , r , null , true ) ; put 1 , get 2 ; "
        + "try { raise 5 ; } catch ( e ) { r [ e ] = r . length ; { } } c . o ( ) . n . a = f . b ( ) ; c . o ( ) ; return - ( i ) ; }").split(" ");

    /** Each token in a line of its own, one of them another one. */
    private static String with(int at, String instead) {
        StringBuilder all = new StringBuilder();
        for (int i = 0; i < WHOLE.length; i++) {
            all.append(i == at ? instead : WHOLE[i]).append('\n');
        }
        return all.toString();
    }

    /** "2 it can't stand there": what ends or parts something is not to be had for another such sign. */
    private static void signsInTheirPlaces(Bench b) {
        String[] ends = {";", ",", "]", ")", "}"};
        int tried = 0;
        for (int at = 0; at < WHOLE.length; at++) {
            String token = WHOLE[at];
            String ahead = at == 0 ? "" : WHOLE[at - 1];
            boolean end = java.util.Arrays.asList(ends).contains(token);
            boolean headed = java.util.Arrays.asList("if", "while", "catch").contains(ahead);
            boolean opens = token.equals("{") && !ahead.equals("{") && !ahead.equals(";") && !ahead.equals("}");
            boolean ofARow = token.equals("[") && ahead.equals("int");
            for (String other : new String[] {";", ",", "]", ")", "}", "{", "(", "[", "=", "=="}) {
                boolean opening = java.util.Arrays.asList("{", "(", "[", "=", "==").contains(other);
                // ARGUMENTS and parameters may end or go on; what begins or joins may stand at many places
                boolean mayStand = token.equals(other) || token.equals(")") && other.equals(",") || token.equals(",") && other.equals(")")
                    || end && opening || opens && other.equals("(");
                if ((end || headed || opens || ofARow) && !mayStand) {
                    b.fault(with(at, other), 2, at + 1);
                    tried++;
                }
            }
        }
        b.due("many, " + tried, tried > 300, true);
        // all as it stands: f.b() is the only fault
        int call = java.util.Arrays.asList(WHOLE).indexOf("b");
        b.fault(with(-1, ""), 5, call + 1);
        b.fine(with(call, "z").replace("f\n.\nz\n(\n)", "c\n.\nm\n(\n1\n,\nr\n,\nf\n,\ntrue\n)"));
    }

    /** "(a METHOD, 4 parameters at most)": a fifth one can't stand there. */
    private static void parameters(Bench b) {
        String[] given = {"", "int a", "int a,int c", "int a,int c,int d", "int a,int c,int d,int e"};
        for (int n = 0; n < given.length; n++) {
            b.fine("class C{int m(" + given[n] + "){}}main{}");
            b.due("parameters", b.x.method(0, 0, 1), n);
            b.due("slots", b.x.method(0, 0, 2), n + 1);
        }
        b.fault("class C{int m(int a,int c,int d,int e,int f){}}main{}", 2, 1);
        b.fault("class C{int m(int a,int c,int d,int e,bool f,int g){}}main{}", 2, 1);
        b.fault("class C{int m(,){}}main{}", 2, 1);
        b.fault("class C{int m(int a,){}}main{}", 2, 1);
        b.fault("class C{int m(int a int c){}}main{}", 2, 1);
    }

    /** "CLASSES, then main BLOCK", "MEMBERS": none, one and many. */
    private static void members(Bench b) {
        b.fine("main{}");
        b.fine("class C{}main{}");
        b.fine("class C{int a;}class D{int m(){}}main{}");
        b.fault("class C{}", 2, 1);
        b.fault("class C{}\n\n", 2, 3);
        b.fault("main{}main{}", 2, 1);
        b.fault("main{}class C{}", 2, 1);
        b.fault("class C{;}main{}", 2, 1);
        b.fault("class C{int a;;}main{}", 2, 1);
        b.fault("class C{int a,c;}main{}", 2, 1);
        b.fault("class C{class D{}}main{}", 2, 1);
        b.fault("main", 2, 1);
        b.fault("main;", 2, 1);
        b.fault("main(){}", 2, 1);
    }

    /** "(a LOCAL ..; no STATEMENT of if or while itself)". */
    private static void localsAlone(Bench b) {
        String[] heads = {"if(true)", "while(true)", "if(true)1;else ", "if(true)if(true)", "if(true){}else if(true)"};
        for (String head : heads) {
            b.fault("class C{}main{" + head + "\nint a=1;}", 2, 2);
            b.fault("class C{}main{" + head + "\nbool a=true;}", 2, 2);
            b.fault("class C{}main{" + head + "\nfar C a=null;}", 2, 2);
            b.fault("class C{}main{" + head + "\nint[] a=null;}", 2, 2);
            b.fault("class C{}main{" + head + "C\na=null;}", 2, 2);
            b.fine("class C{}main{" + head + "{int a=1;bool c=true;far C d=null;C e=null;int[] f=null;}}");
        }
        b.fine("class C{}main{if(true)1;int a=1;}");
        b.fault("main{if(true)else 1;}", 2, 1);
        b.fault("main{if(true)}", 2, 1);
        b.fault("main{while(true)}", 2, 1);
    }

    /** "(a LOCAL, behind it in reach up to the end of its BLOCK, not in its own E)". */
    private static void reach(Bench b) {
        b.fault("main{\na;\nint a=1;}", 5, 2);
        b.fault("main{int a=\na;}", 5, 2);
        b.fault("main{int a=1+(2*\na);}", 5, 2);
        b.fine("main{int a=1;a;}");
        b.fine("main{{int a=1;{a;}a;}}");
        b.fault("main{{int a=1;}\na;}", 5, 2);
        b.fault("main{if(true){int a=1;}else\na;}", 5, 2);
        b.fault("main{while(true){int a=1;}\na;}", 5, 2);
        b.fault("class C{int m(int a){}int n(){return\na;}}main{}", 5, 2);
        b.fault("class C{int m(){int a=1;}}main{\na;}", 5, 2);
        b.fine("main{try{}catch(e){e;}}");
        b.fault("main{try{\ne;}catch(e){}}", 5, 2);
        b.fault("main{try{}catch(e){}\ne;}", 5, 2);
        // the same NAME again, once it is out of reach
        b.fine("main{{int a=1;}{bool a=true;}int a=2;}");
        b.fine("class C{int m(int a){}int n(int a){int c=a;}}main{int a=1;}");
        b.fault("main{int a=1;{\nbool a=true;}}", 4, 2);
        b.fine("main{try{int e=1;}catch(e){}try{}catch(e){}int e=1;}");
        b.fault("main{try{}catch(e){try{}catch(\ne){}}}", 4, 2);
    }

    /** "== != (once); < <= > >= (once)". */
    private static void onceOnly(Bench b) {
        String[] alike = {"==", "!="};
        String[] order = {"<", "<=", ">", ">="};
        for (String s : alike) {
            for (String z : alike) {
                b.fault("main{1" + s + "2\n" + z + "3;}", 2, 2);
                b.fine("main{(1" + s + "2)" + z + "true;}");
                b.fine("main{true" + z + "(1" + s + "2);}");
                b.fine("main{1" + s + "2&&3" + z + "4||5" + s + "6;}");
            }
        }
        for (String s : order) {
            for (String z : order) {
                b.fault("main{1" + s + "2\n" + z + "3;}", 2, 2);
                b.fine("main{1" + s + "2==3" + z + "4;}");
                b.fault("main{1" + s + "2==3" + z + "4\n" + s + "5;}", 2, 2);
                b.fault("main{1" + s + "2==3" + z + "4\n!=true;}", 2, 2);
            }
        }
        b.fine("main{1+2+3-4*5*6/7%8;true&&true&&true;true||true||true;}");
    }

    /** "that is a NAME or ends with . NAME or [ E ]: 2 at the =, if not". */
    private static void aheadOfSet(Bench b) {
        String[] none = {"1", "true", "null", "this", "here", "self", "twin", "(a)", "(a.b)", "(a[0])", "a()", "a.m()", "a.length", "new C",
            "new int[3]", "-a", "!a.b", "go a", "get a[0]", "pin a", "a+a", "a*a.b", "a<a[0]", "a==a", "a&&a.b", "a||a"};
        for (String s : none) {
            b.fault("class C{int m(){" + s + "\n=1;}}main{}", 2, 2);
        }
        // what stood ahead of an earlier =, or within, is not meant
        for (String s : none) {
            b.fault("class C{C b;int v;C m(){}int n(int a,C c){a=1;c.b=c;a;" + s + "\n=1;}}main{}", 2, 2);
        }
        for (String s : new String[] {"new int[a]", "new int[r[a]]", "n(a)", "this.n(r[0])", "(a)", "(r[a])", "-a", "new C", "r.length", "1+a", "r[a]+a"}) {
            b.fault("class C{int n(int a){int[] r=null;" + s + "\n=1;}}main{}", 2, 2);
        }
        String head = "class C{C b;int v;int[] r;C m(){return this;}int n(){C a=this;int[] q=r;";
        for (String s : new String[] {"v", "this.v", "a.v", "a.b.v", "(a).v", "m().v", "a.m().b.v", "new C.v", "q[0]", "r[0]", "a.r[0]",
            "(q)[1]", "m().r[v]", "new int[3][2]", "q[q[0]]"}) {
            b.fine(head + s + "=1;}}main{}");
            b.fault(head + s + "=1\n=2;}}main{}", 2, 2);
        }
    }

    /** "3 a STATEMENT .. within 20 of these that are open (at its first token; BLOCKs of methods and main, of try and catch ..)". */
    private static void openStatements(Bench b) {
        // n BLOCKs are open, main's the first of them
        for (int n = 1; n <= 20; n++) {
            b.fine("main" + times("{", n) + times("}", n));
        }
        b.fault("main" + times("{", 20) + "\n{" + times("}", 21), 3, 2);
        b.fault("class C{int m()" + times("{", 20) + "\n{" + times("}", 21) + "}main{}", 3, 2);
        b.fine("class C{int m()" + times("{", 20) + times("}", 20) + "}main" + times("{", 20) + times("}", 20));
        // as the twentieth a STATEMENT may stand, its E not
        String[] heads = {"\nprint\n1;", "\nreturn\n1;", "\nraise\n1;", "\nput\n1,2;", "\nif(\ntrue){}", "\nwhile(\ntrue){}", "\nint a=\n1;"};
        for (String s : heads) {
            b.fine("main" + times("{", 18) + s + times("}", 18));
            b.fault("main" + times("{", 19) + s + times("}", 19), 3, 3);
            b.fault("main" + times("{", 20) + s + times("}", 20), 3, 2);
        }
        // what stands ahead of = is an E itself
        b.fine("main{int a=1;" + times("{", 17) + "a=1;" + times("}", 18));
        b.fault("main{int a=1;" + times("{", 18) + "\na=\n1;" + times("}", 19), 3, 2);
        b.fine("main{int a=1;" + times("{", 17) + "a;" + times("}", 18));
        b.fault("main{int a=1;" + times("{", 18) + "\na;" + times("}", 19), 3, 2);
        // try, and its BLOCKs within it
        b.fine("main" + times("{", 18) + "try{}catch(e){}" + times("}", 18));
        b.fault("main" + times("{", 19) + "\ntry\n{}catch(e){}" + times("}", 19), 3, 3);
        b.fault("main" + times("{", 20) + "\ntry\n{}catch(e){}" + times("}", 20), 3, 2);
        b.fine("main" + times("{", 17) + "try{{}}catch(e){{}}" + times("}", 17));
        b.fault("main" + times("{", 18) + "try{}catch(e){\n{}}" + times("}", 18), 3, 2);
        b.fault("main" + times("{", 18) + "try{\n{}}catch(e){}" + times("}", 18), 3, 2);
        // STATEMENTS of if, else and while are within it
        for (String s : new String[] {"if(true)", "while(true)", "if(true){}else "}) {
            b.fine("main{" + times(s, 18) + "{}}");
            b.fault("main{" + times(s, 18) + "{\n{}}}", 3, 2);
            b.fault("main{" + times(s, 19) + "\n{}}", 3, 1);
        }
        // one that has ended is not open
        b.fine("main{" + times("{}", 100) + times("{", 19) + times("}", 19) + times("1;", 100) + "}");
    }

    /** "E (also in ( ), ARGUMENTS, [ ])". */
    private static void openExpressions(Bench b) {
        // BLOCK, STATEMENT, E: seventeen more
        b.fine("main{" + times("(", 17) + "1" + times(")", 17) + ";}");
        b.fault("main{" + times("(", 18) + "\n1" + times(")", 18) + ";}", 3, 2);
        b.fine("main{int[] a=null;" + times("a[", 17) + "1" + times("]", 17) + ";}");
        b.fault("main{int[] a=null;" + times("a[", 18) + "\n1" + times("]", 18) + ";}", 3, 2);
        b.fine("main{" + times("new int[", 17) + "1" + times("].length", 17) + ";}");
        b.fault("main{" + times("new int[", 18) + "\n1" + times("].length", 18) + ";}", 3, 2);
        String head = "class C{C c;far C f;int m(int k){";
        b.fine(head + times("m(", 17) + "1" + times(")", 17) + ";}}main{}");
        b.fault(head + times("m(", 18) + "\n1" + times(")", 18) + ";}}main{}", 3, 2);
        b.fine(head + times("c.m(", 17) + "1" + times(")", 17) + ";}}main{}");
        b.fault(head + times("c.m(", 18) + "\n1" + times(")", 18) + ";}}main{}", 3, 2);
        b.fine(head + times("f.m(", 17) + "1" + times(")", 17) + ";}}main{}");
        b.fault(head + times("f.m(", 18) + "\n1" + times(")", 18) + ";}}main{}", 3, 2);
        // also on the right, and as a second one; signs open nothing
        b.fine("main{1+" + times("(2*", 17) + "1" + times(")", 17) + ";}");
        b.fault("main{1+" + times("(2*", 17) + "(\n1" + times(")", 18) + ";}", 3, 2);
        b.fine("main{" + times("(1)+", 40) + "1;}");
        b.fine("main{" + times("1+", 590) + "1;}");
        b.fine("main{int[] a=null;" + times("a[", 16) + "1" + times("]", 16) + "=1;}");
        b.fault("main{int[] a=null;a[0]=" + times("(", 18) + "\n1" + times(")", 18) + ";}", 3, 2);
        b.fine("main{int[] a=null;a[0]=" + times("(", 17) + "1" + times(")", 17) + ";}");
    }

    /** "or unit (- ! go get pin, at that sign)", "a unit and the E that begins with it are two". */
    private static void openUnits(Bench b) {
        b.fine("main{" + times("-", 17) + "1;}");
        b.fault("main{" + times("-", 17) + "\n-\n1;}", 3, 2);
        b.fine("main{" + times("!", 17) + "true;}");
        b.fault("main{" + times("!", 17) + "\n!\ntrue;}", 3, 2);
        b.fine("main{" + times("get ", 17) + "1;}");
        b.fault("main{" + times("get ", 17) + "\nget\n1;}", 3, 2);
        b.fine("main{" + times("!", 16) + "go 1;}");
        b.fault("main{" + times("!", 17) + "\ngo\n1;}", 3, 2);
        b.fine("class C{}main{" + times("(", 16) + "pin new C" + times(")", 16) + ";}");
        b.fault("class C{}main{" + times("(", 17) + "\npin\nnew C" + times(")", 17) + ";}", 3, 2);
        // a unit and an E take turns
        b.fine("main{" + times("-(", 8) + "-1" + times(")", 8) + ";}");
        b.fine("main{-" + times("(-", 8) + "1" + times(")", 8) + ";}");
        b.fine("main{" + times("-(", 8) + "-1" + times(")", 8) + "+" + times("-(", 8) + "-1" + times(")", 8) + ";}");
        b.fault("main{" + times("-(", 8) + "-\n(-1)" + times(")", 8) + ";}", 3, 2);
        b.fault("main{" + times("-(", 8) + "-(\n-1)" + times(")", 8) + ";}", 3, 2);
        b.fault("main{" + times("-(", 9) + "\n1" + times(")", 9) + ";}", 3, 2);
        // behind a sign nothing of the left side is open any more
        b.fine("main{" + times("-", 17) + "1+" + times("-", 17) + "1;}");
    }

    /** "FAULTS of the text: the first one, token by token, of one token the least". */
    private static void firstOfTheText(Bench b) {
        b.fault("main{;\n#}", 2, 1);
        b.fault("main{#\n;}", 1, 1);
        b.fault("main{" + times("(", 18) + "1;\n#", 3, 1);
        b.fault("main{;" + times("\n(", 18) + "1", 2, 1);
        // no token, and it could not stand there; it can't stand there, and would be too deep
        b.fault("main{}\n#", 1, 2);
        b.fault("main" + times("{", 20) + "\n#", 1, 2);
        b.fault("main" + times("{", 20) + "\n)", 2, 2);
        b.fault("main" + times("{", 19) + "print\n;", 2, 2);
        b.fault("main{" + times("-", 17) + "\n;", 2, 2);
        b.fault("main{" + times("-", 18) + "\n;", 3, 1);
        // the text's come ahead of the rules'
        b.fault("class C{}class C{D d;}main{x=true+this;\n1 2;}", 2, 2);
        b.fault("class C{}class C{D d;}main{x=true+this;}\n}", 2, 2);
        b.fault("class C{}class C{D d;}main{x=true+this;}\n\u00ff", 1, 2);
        b.fault("class C{}class C{D d;}main{x=true+this;}\n" + "abcdefghijklm", 1, 2);
    }

    /** "If there is none, those of the rules, that of the token that comes first". */
    private static void firstOfTheRules(Bench b) {
        String[] faults = {"4int a=1;", "5x;", "6print true;", "7c.m();", "8this;"};
        for (String one : faults) {
            for (String two : faults) {
                b.fault("class C{int m(int k){}}main{C c=null;int a=0;\n" + one.substring(1) + "\n{" + two.substring(1) + "}}",
                    one.charAt(0) - '0', 2);
            }
        }
        // found later, but it stands ahead
        b.fault("main{bool a\n=\n1+true;}", 6, 2);
        b.fault("main{int[] a=null;a\n[\ntrue+1==1];}", 6, 2);
        b.fault("main{int[] a=null;a\n[\ntrue+1];}", 6, 3);
        b.fault("class C{int m(int k){}}main{new C.\nm(\ntrue,\nx);}", 7, 2);
        b.fault("class C{int m(int k){}}main{new C.m(\ntrue\n&&x);}", 6, 2);
        b.fault("main{\nif(\nx)1;}", 5, 3);
        b.fault("main{\nif(\n1+\nx)1;}", 6, 2);
        b.fault("main{int a\n=true;int a=1;}", 6, 2);
        b.fault("main{int a=1;int\na\n=true;}", 4, 2);
        b.fault("class C{int m(){\nx;}\nint m(){}}main{}", 5, 2);
        b.fault("class C{int m(){}\nint m(){\nx;}}main{}", 4, 2);
    }

    /** "of one token the least": what comes to one token by two rules. */
    private static void sameToken(Bench b) {
        // the first token of an ARGUMENT that does not fit has a fault of its own
        b.fault("class C{int m(bool k){}}main{new C.m(\nx+1);}", 5, 2);
        b.fault("class C{int m(bool k){}}main{new C.m(\nthis+1);}", 6, 2);
        b.fault("class C{int m(bool k){return m(\nn()\n);}int n(int k){}}main{}", 6, 2);
        b.fault("class C{bool n(int k){}int m(bool k){return m(\nn());}}main{}", 7, 2);
        b.fault("class C{int m(bool k){}}main{new C.m(\n-true);}", 6, 2);
        b.fault("class C{int m(bool k){}}main{new C.m(\nnew D);}", 5, 2);
    }

    private static String many(int n, String head, String tail) {
        StringBuilder all = new StringBuilder();
        for (int i = 0; i < n; i++) {
            all.append(head).append('n').append(i).append(tail);
        }
        return all.toString();
    }

    private static void limit(Bench b, String fine, String tooMuch) {
        b.fine(fine);
        b.fault(tooMuch, 9, 0);
        b.due("none came", b.x.count(1), 0);
        // any other fault goes ahead of 9
        b.fault(tooMuch.substring(0, tooMuch.length() - 1) + "\nx;}", 5, 2);
        b.fault(tooMuch + "\n}", 2, 2);
    }

    /** "9 (line 0, if there is no other): .. more than 12 classes, 12 fields of one". */
    private static void limitsOfClasses(Bench b) {
        b.fine(many(11, "class ", "{}") + "main{}");
        limit(b, many(12, "class ", "{}") + "main{}", many(13, "class ", "{}") + "main{}");
        b.due("none", b.x.program(0, 0), -1);
        b.fine(many(12, "class ", "{}") + "main{}");
        b.due("classes", b.x.program(0, 0), 12);
        b.fine("class C{" + many(11, "int ", ";") + "}main{}");
        limit(b, "class C{" + many(12, "int ", ";") + "}main{}", "class C{" + many(13, "int ", ";") + "}main{}");
        // of one: others have theirs, and methods are none
        b.fine("class C{" + many(12, "int ", ";") + "int m(){}int o(){}}class D{" + many(12, "bool ", ";") + "}main{}");
        limit(b, "class A{int a;}class C{" + many(12, "C ", ";") + "}main{}", "class A{int a;}class C{" + many(13, "C ", ";") + "}main{}");
        b.fault("class C{" + many(13, "int ", ";") + "}class D{}main{}", 9, 0);
    }

    /** "40 methods (main is one), 30 LOCALS and parameters of a method (each NAME that is told)". */
    private static void limitsOfMethods(Bench b) {
        b.fine("class C{" + many(38, "int ", "(){}") + "}main{}");
        limit(b, "class C{" + many(39, "int ", "(){}") + "}main{}", "class C{" + many(40, "int ", "(){}") + "}main{}");
        b.fine("class C{" + many(20, "int ", "(){}") + "}class D{" + many(19, "int ", "(){}") + "}main{}");
        b.due("methods", b.x.program(0, 1), 40);
        b.fault("class C{" + many(20, "int ", "(){}") + "}class D{" + many(20, "int ", "(){}") + "}main{}", 9, 0);
        // of main
        b.fine("main{" + many(29, "int ", "=1;") + "}");
        limit(b, "main{" + many(30, "int ", "=1;") + "}", "main{" + many(31, "int ", "=1;") + "}");
        // of a method: this is no LOCAL, parameters count
        String head = "class C{int m(int a,int c,int d,int e){";
        b.fine(head + many(26, "int ", "=1;") + "}}main{" + many(30, "int ", "=1;") + "}");
        b.due("slots", b.x.method(0, 0, 2), 31);
        b.due("slots", b.x.method(0, 1, 2), 30);
        b.fault(head + many(27, "int ", "=1;") + "}}main{}", 9, 0);
        b.fine("class C{int m(){" + many(30, "int ", "=1;") + "}}main{}");
        b.fault("class C{int m(){" + many(31, "int ", "=1;") + "}int n(){}}main{}", 9, 0);
        // each NAME that is told: the same one in another BLOCK, that of a catch
        b.fine("main{" + times("{int a=1;}", 30) + "}");
        b.fault("main{" + times("{int a=1;}", 31) + "}", 9, 0);
        b.fine("main{" + times("try{}catch(e){}", 30) + "}");
        b.fault("main{" + times("try{}catch(e){}", 31) + "}", 9, 0);
        b.fault("main{" + times("try{}catch(e){}", 15) + times("{int a=1;}", 16) + "}", 9, 0);
    }

    /** "1,200 instructions". */
    private static void limitsOfCode(Bench b) {
        // two each, three with a sign, and two at the end
        b.fine("main{-1;" + times("1;", 597) + "}");
        b.due("instructions", b.x.program(0, 2), 1199);
        limit(b, "main{" + times("1;", 599) + "}", "main{-1;" + times("1;", 598) + "}");
        b.fault("main{" + times("1;", 600) + "}", 9, 0);
        // over all methods together
        b.fine("class C{int m(){" + times("1;", 299) + "}}main{" + times("1;", 299) + "}");
        b.due("instructions", b.x.program(0, 2), 1200);
        b.due("main's", b.x.method(0, 1, 3), 600);
        b.fault("class C{int m(){" + times("1;", 299) + "}}main{-1;" + times("1;", 298) + "}", 9, 0);
        b.fault("class C{int m(){" + times("1;", 600) + "}}main{}", 9, 0);
        b.fault("main{" + times("1;", 1990) + "}", 9, 0);
    }

    /** "a ninth program". */
    private static void limitOfPrograms(Bench b) {
        b.fresh();
        for (int p = 0; p < 8; p++) {
            b.due("a fault makes none", b.read("main{x;}"), -21);
            b.due("programs", b.x.count(1), p);
            b.due("read", b.read("main{return " + p + ";}"), p);
        }
        b.due("a ninth", b.read("main{return 8;}"), -9);
        b.due("the tape is empty then", b.x.count(0), 0);
        b.due("a ninth with another fault", b.read("\nmain{x;}"), -(5 + 32));
        b.due("a ninth with another fault", b.read("\n\nmain{#}"), -(1 + 48));
        b.due("programs", b.x.count(1), 8);
        for (int p = 0; p < 8; p++) {
            b.due("as they were", b.x.instruction(p, 0, 1), p);
        }
        b.due("none", b.x.program(8, 2), -1);
    }

    /** Each text stands by itself: what an earlier one told of classes, fields, methods and LOCALS is not in reach of a later one. */
    private static void textsInTurn(Bench b) {
        b.fresh();
        b.due("read", b.read("class C{int a;int c;C d;int m(int k,int l){int z=1;return z;}}class E{int e;}main{int a=1;int y=2;}"), 0);
        b.due("read", b.read("class D{bool z;int y;D m(){return this;}}main{D d=new D;d.y=5;d.z=true;d.m();}"), 1);
        b.due("code", b.code(1), "LOAD; ANSWER; NULL 1; ANSWER; NEW; STORE; LOAD; NUMBER 5; SETFIELD 1; LOAD; NUMBER 1; SETFIELD; LOAD; CALL; DROP; "
            + "NUMBER; ANSWER");
        b.due("classes", b.x.program(1, 0), 1);
        b.due("slots", b.x.method(1, 1, 2), 1);
        b.due("no class C", b.read("main{C c=null;}"), -(5 + 16));
        b.due("no LOCAL", b.read("main{a;}"), -(5 + 16));
        b.due("no field", b.read("class C{int m(){return a;}}main{}"), -(5 + 16));
        b.due("no method", b.read("class C{int a(){return m(1,2);}}main{}"), -(5 + 16));
        b.x.give(0, 1);
        b.start(1, 0);
        b.step(0, 8);
        b.due("fields", b.x.cell(0, 0, 0, -2), 2);
        b.due("y", b.x.cell(0, 0, 0, 1), 5);
        b.due("z", b.x.cell(0, 0, 0, 0), 1);
    }
}
