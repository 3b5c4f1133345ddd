import java.lang.management.ManagementFactory;

/** All calls of a run live in one room of some 7.3 million fields and elements: what the dearest runs make is counted. */
public final class RoomTest {
    /** Ints, of four bytes each; far below what the room has. */
    private static final long MOST = 2_000_000;

    private static final com.sun.management.ThreadMXBean MADE =
        (com.sun.management.ThreadMXBean) ManagementFactory.getThreadMXBean();

    public static void main(String[] args) {
        Bench b = new Bench();
        texts(b);
        keeps(b);
        moves(b);
        b.end();
    }

    private static long made() {
        return MADE.getThreadAllocatedBytes(Thread.currentThread().getId()) / 4;
    }

    /** 512 calls that read as much as can be, most of them in vain. */
    private static void texts(Bench b) {
        StringBuilder text = new StringBuilder("main{");
        while (text.length() < 2300) {
            text.append("1;1+1;");
        }
        byte[] bytes = Bench.bytesOf(text + "}");
        long before = made();
        b.fresh();
        for (int i = 0; i < 4; i++) {
            b.feed(bytes);
            b.x.read();
        }
        b.due("texts", made() - before < MOST, true);
    }

    private static void keeps(Bench b) {
        b.begin("class C{int[] r;C n;}main{C c=new C;c.r=new int[100];c.n=new C;c.n.r=new int[100];"
            + "while(true){if(twin==0)while(true){pin c;put self,1;}}}");
        long before = made();
        int rounds = (House.MOST_CALLS - b.x.callsMade() - 1) / 2;
        for (int i = 0; i < rounds; i++) {
            b.x.step(0, 500);
            b.x.power(0, 0);
        }
        b.due("keeps", made() - before < MOST, true);
        b.due("kept", b.x.host(0, 4), 2 + rounds);
    }

    private static void moves(Bench b) {
        b.begin("main{int[] r=new int[100];int i=0;while(i<100){r[i]=i*1000000;i=i+1;}while(true){i=i+1;go (i%5);}}");
        long before = made();
        for (int i = 0; b.x.callsMade() < House.MOST_CALLS - 4; i++) {
            int h = i % 5;
            int g = (h + 1) % 5;
            b.x.step(h, 500);
            for (int n = 0; b.x.callsMade() < House.MOST_CALLS - 3 && n < 60 && b.x.pass(h, g) >= 0; n++) {
                b.x.tick(h);
                b.x.pass(g, h);
            }
        }
        b.due("moves", made() - before < MOST, true);
    }
}
