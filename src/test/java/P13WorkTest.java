/** Promise 13: work. */
public final class P13WorkTest {
    private static final Due DUE = new Due();

    public static void main(String[] args) {
        testWrongArguments();
        testWorkGrows();
        testWorkOfBothInManyFrames();
        testWorkGoesBackWithTheState();
        DUE.end();
    }

    private static void testWrongArguments() {
        RollbackPair x = new RollbackPair(0, 8, 0);
        int[] wrong = Play.NO_PEER;
        for (int one : wrong) {
            DUE.same("no such peer", x.work(one), -1.0);
        }
        DUE.same("none at first", x.work(1), 0.0);
    }

    private static void testWorkGrows() {
        RollbackPair x = new RollbackPair(0, 8, 0);
        x.advance(0, 2);
        double first = (double) 0.3f * (double) 0.3f;
        DUE.same("after one frame", x.work(0), first);
        x.advance(0, 4);
        double second = (0.3f * 0.875f) * 0.5f;
        DUE.same("after two frames", x.work(0), first + second * second);
        DUE.same("none at the other", x.work(1), 0.0);
    }

    /** Each packet comes before the frame is played, so that no guess is ever wrong. */
    private static void testWorkOfBothInManyFrames() {
        RollbackPair x = new RollbackPair(0, 8, 0);
        double work = 0.0;
        for (int i = 0; i < 60; i++) {
            x.advance(1, i % 5 == 4 ? 6 : 1);
            x.deliver(0);
            DUE.same("advance", x.advance(0, i % 7 == 6 ? 5 : 2), i);
            x.deliver(1);
            double s = x.speed(0, 0);
            double t = x.speed(0, 1);
            work = work + (s * s + t * t);
            DUE.same("work after " + i, x.work(0), work);
        }
        DUE.same("through hits", x.hits(0) > 0, true);
    }

    private static void testWorkGoesBackWithTheState() {
        RollbackPair x = new RollbackPair(0, 8, 0);
        x.advance(0, 2);
        x.advance(1, 1);
        x.deliver(0);
        double one = (double) 0.3f * (double) 0.3f;
        DUE.same("anew, not more", x.work(0), one + one);
    }
}
