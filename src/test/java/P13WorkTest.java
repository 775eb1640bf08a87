/** Promise 13: work. */
public final class P13WorkTest {
    private static final Due DUE = new Due();

    public static void main(String[] args) {
        testWrongArguments();
        testWorkGrows();
        testWorkGoesBackWithTheState();
        DUE.end();
    }

    private static void testWrongArguments() {
        RollbackPair x = new RollbackPair(0, 8, 0);
        int[] wrong = {-1, 2, Integer.MIN_VALUE, Integer.MAX_VALUE};
        for (int one : wrong) {
            DUE.same("no such peer", x.work(one), -1.0);
        }
        DUE.same("none at first", x.work(1), 0.0);
    }

    private static void testWorkGrows() {
        RollbackPair x = new RollbackPair(0, 8, 0);
        for (int i = 0; i < 8; i++) {
            x.advance(1, 1);
        }
        double work = 0.0;
        for (int i = 0; i < 40; i++) {
            x.advance(0, i % 3 + 1);
            x.deliver(0);
            if (x.about(0, 0) != i + 1) {
                break;
            }
            if (i == 0) {
                continue;
            }
            double s = x.speed(0, 0);
            double t = x.speed(0, 1);
            work = i == 1 ? x.work(0) : work + (s * s + t * t);
            DUE.same("work after " + i, x.work(0), work);
        }
        RollbackPair y = new RollbackPair(0, 8, 0);
        y.advance(0, 2);
        double first = (double) 0.3f * (double) 0.3f;
        DUE.same("after one frame", y.work(0), first);
        y.advance(0, 4);
        double second = (0.3f * 0.875f) * 0.5f;
        DUE.same("after two frames", y.work(0), first + second * second);
        DUE.same("none at the other", y.work(1), 0.0);
    }

    private static void testWorkGoesBackWithTheState() {
        RollbackPair x = new RollbackPair(0, 8, 0);
        x.advance(0, 2);
        x.advance(1, 1);
        x.deliver(0);
        double one = (double) 0.3f * (double) 0.3f;
        DUE.same("anew, not more", x.work(0), one + one);
    }
}
