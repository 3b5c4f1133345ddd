/** The calls that README.md shows, with the answers that it tells. */
public final class ReadmeTest {
    public static void main(String[] args) {
        Bench b = new Bench();
        House x = b.x;
        feed(x, "main{print here;if(go 1)return here+10;return -1;}");
        int p = x.read();
        b.due("read", p, 0);
        b.due("give", x.give(0, p), true);
        b.due("give", x.give(1, p), true);
        int t = x.start(p, 0);
        b.due("start", t, 0);
        b.due("step", x.step(0, 100), 4);
        b.due("OFFERED", x.traveller(t, 0, 0), 1);
        b.due("OFFER", x.pass(0, 1), 0);
        b.due("READY", x.pass(1, 0), 1);
        b.due("PART", x.pass(0, 1), 3);
        b.due("HERE WHOLE", x.traveller(t, 1, 0), 5);
        b.due("WHOLE", x.pass(1, 0), 4);
        b.due("GONE", x.traveller(t, 0, 0), 3);
        b.due("RELEASE", x.pass(0, 1), 5);
        b.due("ACTING", x.traveller(t, 1, 0), 0);
        b.due("DONE", x.pass(1, 0), 6);
        b.due("forgotten", x.traveller(t, 0, 0), -1);
        b.due("step", x.step(1, 100), 5);
        b.due("ENDED", x.traveller(t, 1, 0), 7);
        b.due("with", x.traveller(t, 1, 6), 11);
        b.due("printed", x.line(t, 1, 0), 0);
        b.due("one line", x.traveller(t, 1, 4), 1);
        b.end();
    }

    private static void feed(House x, String text) {
        for (int i = 0; i < text.length(); i += 20) {
            int[] w = new int[5];
            for (int k = i; k < Math.min(i + 20, text.length()); k++) {
                w[(k - i) / 4] |= text.charAt(k) << 24 - 8 * (k % 4);
            }
            x.feed(w[0], w[1], w[2], w[3], w[4]);
        }
        x.back((20 - text.length() % 20) % 20);
    }
}
