/** Promise 1: what a new object is, and how its arguments are held within their limits. */
public final class P01NewObjectTest {
    private static final Due DUE = new Due();

    public static void main(String[] args) {
        testFirstState();
        testDelayLimits();
        testWindowLimits();
        testStartIsCutToShort();
        testNumbersWrap();
        DUE.end();
    }

    private static void testFirstState() {
        RollbackPair x = new RollbackPair(3, 5, 9);
        for (int peer = 0; peer < 2; peer++) {
            DUE.same("place of 0", x.place(peer, 0), 8.0);
            DUE.same("place of 1", x.place(peer, 1), 24.0);
            DUE.same("speed of 0", x.speed(peer, 0), 0.0);
            DUE.same("speed of 1", x.speed(peer, 1), 0.0);
            DUE.same("hits", x.hits(peer), 0);
            DUE.same("work", x.work(peer), 0.0);
            DUE.same("advice", x.advice(peer), 0.0);
            int[] about = {0, 0, 0, RollbackPair.NONE, 0, 3};
            for (int what = 0; what < about.length; what++) {
                DUE.same("about " + what, x.about(peer, what), about[what]);
            }
            DUE.same("known of 0", x.known(peer, 0), 3);
            DUE.same("known of 1", x.known(peer, 1), 3);
            DUE.same("deliver", x.deliver(peer), -1);
        }
        DUE.same("NONE", RollbackPair.NONE, -1);
    }

    private static void testDelayLimits() {
        int[][] cases = {
            {Integer.MIN_VALUE, 0}, {-1, 0}, {0, 0}, {1, 1}, {2, 2}, {3, 3}, {4, 4}, {5, 4},
            {Integer.MAX_VALUE, 4}};
        for (int[] one : cases) {
            RollbackPair x = new RollbackPair(one[0], 8, 0);
            DUE.same("known, delay " + one[0], x.known(0, 1), one[1]);
            DUE.same("told, delay " + one[0], x.about(1, 5), one[1]);
            int frame = 0;
            while (frame < one[1]) {
                x.advance(0, 2);
                DUE.same("used early, delay " + one[0], x.used(0, 0, frame), 0);
                frame++;
            }
            x.advance(0, 0);
            DUE.same("used then, delay " + one[0], x.used(0, 0, frame), one[1] == 0 ? 0 : 2);
        }
    }

    private static void testWindowLimits() {
        int[][] cases = {
            {Integer.MIN_VALUE, 1}, {-1, 1}, {0, 1}, {1, 1}, {2, 2}, {7, 7}, {8, 8}, {9, 8},
            {Integer.MAX_VALUE, 8}};
        for (int[] one : cases) {
            for (int delay = 0; delay <= 4; delay++) {
                RollbackPair x = new RollbackPair(delay, one[0], 0);
                int played = 0;
                while (played < 20 && x.advance(1, 0) != RollbackPair.NONE) {
                    played++;
                }
                DUE.same("frames until stall, window " + one[0], played, one[1] + delay);
            }
        }
    }

    private static void testStartIsCutToShort() {
        int[][] cases = {
            {0, 0}, {1, 1}, {7, 7}, {-1, -1}, {-3, -3}, {32766, 32766}, {32767, 32767},
            {32768, -32768}, {32769, -32767}, {-32767, -32767}, {-32768, -32768}, {-32769, 32767},
            {65535, -1}, {65536, 0}, {65537, 1}, {-65536, 0}, {-65537, -1}, {0x12345678, 0x5678},
            {0x1234ABCD, 0xABCD - 65536}, {Integer.MIN_VALUE, 0}, {Integer.MAX_VALUE, -1}};
        for (int[] one : cases) {
            for (int peer = 0; peer < 2; peer++) {
                RollbackPair x = new RollbackPair(0, 8, one[0]);
                x.advance(1 - peer, 5);
                Parts due = new Parts(one[1], 1, 0, 0, 1, 5L);
                DUE.same("to " + peer + ", start " + one[0], due.arrives(x, peer), true);
                DUE.same("known, start " + one[0], x.known(peer, 1 - peer), 1);
            }
        }
    }

    private static void testNumbersWrap() {
        RollbackPair x = new RollbackPair(0, 8, 32767);
        x.advance(0, 1);
        x.advance(0, 1);
        DUE.same("32767", x.deliver(1), 0);
        DUE.same("-32768 is later", x.deliver(1), 0);
        DUE.same("known of both", x.known(1, 0), 2);
    }
}
