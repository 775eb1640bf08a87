/** Promise 4: alter. */
public final class P04AlterTest {
    private static final Due DUE = new Due();

    public static void main(String[] args) {
        testWrongArguments();
        testLost();
        testTwice();
        testCopyIsWhole();
        testCopyIsItsOwn();
        testToTheEnd();
        testFullRow();
        DUE.end();
    }

    private static RollbackPair sent(int packets) {
        RollbackPair x = new RollbackPair(4, 8, 0);
        for (int i = 0; i < packets; i++) {
            DUE.same("advance", x.advance(0, i % 8), i);
        }
        return x;
    }

    private static void testWrongArguments() {
        RollbackPair x = sent(2);
        int[] wrongPeers = {-1, 2, Integer.MIN_VALUE, Integer.MAX_VALUE};
        int[] wrongHows = {-1, 3, Integer.MIN_VALUE, Integer.MAX_VALUE};
        for (int i = 0; i < 4; i++) {
            DUE.same("no such peer", x.alter(wrongPeers[i], 0), false);
            DUE.same("no such how", x.alter(1, wrongHows[i]), false);
        }
        for (int how = 0; how < 3; how++) {
            DUE.same("no packet", x.alter(0, how), false);
        }
        DUE.same("the row is as it was", x.about(1, 4), 2);
        DUE.same("an empty one too", x.about(0, 4), 0);
        x.deliver(1);
        DUE.same("in its order", x.known(1, 0), 5);
    }

    private static void testLost() {
        RollbackPair x = sent(3);
        DUE.same("lost", x.alter(1, 0), true);
        DUE.same("two left", x.about(1, 4), 2);
        x.deliver(1);
        DUE.same("the second came", x.known(1, 0), 6);
        DUE.same("lost too", x.alter(1, 0), true);
        DUE.same("none left", x.alter(1, 0), false);
    }

    private static void testTwice() {
        RollbackPair x = sent(2);
        DUE.same("twice", x.alter(1, 1), true);
        DUE.same("three there", x.about(1, 4), 3);
        DUE.same("the first one", x.deliver(1), 0);
        DUE.same("known by the first", x.known(1, 0), 5);
        DUE.same("the second one", x.deliver(1), 0);
        DUE.same("known by the second", x.known(1, 0), 6);
        DUE.same("the copy is no later", x.deliver(1), -2);
        DUE.same("none left", x.deliver(1), RollbackPair.NONE);
    }

    private static void testCopyIsWhole() {
        RollbackPair x = new RollbackPair(4, 8, 9);
        x.advance(0, 3);
        DUE.same("twice", x.alter(1, 1), true);
        DUE.same("the first is lost", x.alter(1, 0), true);
        DUE.same("the copy is taken", x.deliver(1), 0);
        DUE.same("its inputs", x.known(1, 0), 5);
        DUE.same("its frame", x.advice(1), -0.25);
    }

    private static void testCopyIsItsOwn() {
        RollbackPair x = sent(1);
        x.spoil(1, 4, 1);
        x.alter(1, 1);
        x.spoil(1, 4, 1);
        x.alter(1, 2);
        DUE.same("the copy is spoilt as it was", x.deliver(1), -2);
        DUE.same("the first one was mended", x.deliver(1), 0);
        DUE.same("known", x.known(1, 0), 5);
    }

    private static void testToTheEnd() {
        RollbackPair x = sent(3);
        DUE.same("to the end", x.alter(1, 2), true);
        DUE.same("three there", x.about(1, 4), 3);
        x.deliver(1);
        DUE.same("the second first", x.known(1, 0), 6);
        x.deliver(1);
        DUE.same("then the third", x.known(1, 0), 7);
        DUE.same("one alone", x.alter(1, 2), true);
        DUE.same("the first last", x.deliver(1), -2);
    }

    private static void testFullRow() {
        RollbackPair x = sent(12);
        DUE.same("twelve there", x.about(1, 4), 12);
        DUE.same("no room for a copy", x.alter(1, 1), false);
        DUE.same("still twelve", x.about(1, 4), 12);
        DUE.same("to the end all the same", x.alter(1, 2), true);
        for (int i = 2; i <= 12; i++) {
            DUE.same("deliver", x.deliver(1), 0);
            DUE.same("packet " + i, x.known(1, 0), 4 + i);
        }
        DUE.same("the first last", x.deliver(1), -2);
        RollbackPair y = sent(11);
        DUE.same("room for one copy", y.alter(1, 1), true);
        DUE.same("and no other", y.alter(1, 1), false);
    }
}
