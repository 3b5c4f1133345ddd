/** Promises 1, 2, 3, and of 16 the tape. */
public final class TapeTest {
    public static void main(String[] args) {
        Bench b = new Bench();
        newObject(b);
        feedAndBack(b);
        limits(b);
        b.end();
    }

    private static void newObject(Bench b) {
        for (int what = 0; what < 6; what++) {
            b.due("count " + what, b.x.count(what), 0);
        }
        b.due("count -1", b.x.count(-1), -1);
        b.due("count 6", b.x.count(6), -1);
        for (int h = 0; h < 5; h++) {
            b.due("up", b.x.host(h, 0), 1);
            for (int what = 1; what < 7; what++) {
                b.due("host has " + what, b.x.host(h, what), 0);
            }
            b.due("host 7", b.x.host(h, 7), -1);
            b.due("host -1", b.x.host(h, -1), -1);
            b.due("at", b.x.at(h, 0), -1);
            b.due("step", b.step(h, 500), 0);
        }
        b.due("host", b.x.host(5, 0), -1);
        b.due("host", b.x.host(-1, 0), -1);
        b.due("program", b.x.program(0, 0), -1);
        b.due("place", b.x.place(), -1);
        b.due("out", b.x.out(0), -1);
        b.due("NONE", TravelHouse.NONE, -1);
    }

    private static void feedAndBack(Bench b) {
        b.fresh();
        b.due("feed", b.x.feed(0x6D61696E, 0x7B7D2F2F, 0x80FF0A0A, 0x20202020, -1), 20);
        b.due("back", b.x.back(4), 16);
        b.due("back 0", b.x.back(0), 16);
        b.due("back -1", b.x.back(-1), -1);
        b.due("back 17", b.x.back(17), -1);
        b.due("back most", b.x.back(Integer.MAX_VALUE), -1);
        b.due("tape", b.x.count(0), 16);
        // main{}// and what is a comment up to the 10
        b.due("read", b.x.read(), 0);
        b.due("tape", b.x.count(0), 0);
        b.due("back 0", b.x.back(0), 0);
        b.due("back 1", b.x.back(1), -1);
        b.fresh();
        b.x.feed(0x6D61696E, 0x7B7D2F2F, 0x80FF0A0A, 0x20202020, -1);
        b.due("the last byte counts", b.x.read(), -(1 + 16 * 3));
    }

    private static void limits(Bench b) {
        b.fresh();
        for (int i = 1; i <= 200; i++) {
            b.due("feed", b.x.feed(0x20202020, 0x20202020, 0x20202020, 0x20202020, 0x20202020), 20 * i);
        }
        b.due("feed beyond", b.x.feed(0, 0, 0, 0, 0), -1);
        b.due("tape", b.x.count(0), 4000);
        b.due("back", b.x.back(19), 3981);
        b.due("feed beyond", b.x.feed(0, 0, 0, 0, 0), -1);
        b.due("back", b.x.back(1), 3980);
        b.due("feed", b.x.feed(0x0A202020, 0x20202020, 0x20202020, 0x20202020, 0x0A202020), 4000);
        b.due("read", b.x.read(), -(2 + 16 * 3));
        b.due("tape", b.x.count(0), 0);
    }
}
