/** Terms: the row of at most 12 packets, when it is empty, nearly full, full and over-full. */
public final class TermsRowTest {
    private static final Due DUE = new Due();

    public static void main(String[] args) {
        testEmptyRow();
        testElevenTwelveThirteen();
        testTheOneSentIntoAFullRowIsLost();
        testALostOneHadItsNumber();
        testEachLeavingMakesRoom();
        testEachRowIsFullByItself();
        testCopiesFillTheRow();
        DUE.end();
    }

    /** A pair with this many packets sent to the other peer, numbers 0, 1, .., frames 1, 2, .. */
    private static RollbackPair sentBy(int peer, int packets) {
        RollbackPair x = Play.alone(peer);
        Play.advanceTimes(x, peer, 0, packets - 1);
        return x;
    }

    private static Parts sentAs(int number) {
        return new Parts(number, number + 1, 0, 0, Math.min(16, number + 1), 0L);
    }

    private static void testEmptyRow() {
        RollbackPair x = new RollbackPair(0, 8, 0);
        isEmpty("new", x);
        x.advance(0, 1);
        x.deliver(1);
        isEmpty("after a packet was taken", x);
        x.advance(0, 1);
        x.spoil(1, 6, 1);
        x.deliver(1);
        isEmpty("after one was dropped", x);
        x.advance(0, 1);
        x.alter(1, 0);
        isEmpty("after one was lost", x);
    }

    private static void isEmpty(String when, RollbackPair x) {
        for (int peer = 0; peer < 2; peer++) {
            DUE.same(when + ": row", x.about(peer, 4), 0);
            DUE.same(when + ": deliver", x.deliver(peer), RollbackPair.NONE);
            for (int how = 0; how < 3; how++) {
                DUE.same(when + ": alter " + how, x.alter(peer, how), false);
            }
            for (int part = 0; part < 7; part++) {
                DUE.same(when + ": spoil " + part, x.spoil(peer, part, 1), false);
            }
        }
    }

    private static void testElevenTwelveThirteen() {
        for (int peer = 0; peer < 2; peer++) {
            int[][] cases = {{1, 1}, {11, 11}, {12, 12}, {13, 12}, {30, 12}};
            for (int[] one : cases) {
                RollbackPair x = sentBy(peer, one[0]);
                DUE.same(one[0] + " sent", x.about(1 - peer, 4), one[1]);
                DUE.same("none to the sender", x.about(peer, 4), 0);
                DUE.same("the sender goes on all the same", x.about(peer, 0), one[0]);
            }
        }
    }

    private static void testTheOneSentIntoAFullRowIsLost() {
        RollbackPair x = sentBy(0, 15);
        for (int number = 0; number < 12; number++) {
            DUE.same("number " + number + " is there", sentAs(number).arrives(x, 1), true);
        }
        DUE.same("and none of the later ones", x.deliver(1), RollbackPair.NONE);
    }

    private static void testALostOneHadItsNumber() {
        RollbackPair x = sentBy(0, 14);
        Play.loseFirst(x, 1, 1);
        x.advance(0, 0);
        Play.loseFirst(x, 1, 11);
        DUE.same("12 and 13 were lost, 14 is there", sentAs(14).arrives(x, 1), true);
    }

    private static void testEachLeavingMakesRoom() {
        RollbackPair taken = sentBy(0, 12);
        DUE.same("taken", taken.deliver(1), 0);
        RollbackPair dropped = sentBy(0, 12);
        dropped.spoil(1, 6, 1);
        DUE.same("dropped", dropped.deliver(1), -2);
        RollbackPair lost = sentBy(0, 12);
        DUE.same("lost", lost.alter(1, 0), true);
        for (RollbackPair x : new RollbackPair[] {taken, dropped, lost}) {
            DUE.same("eleven left", x.about(1, 4), 11);
            x.advance(0, 0);
            DUE.same("room for one", x.about(1, 4), 12);
            x.advance(0, 0);
            DUE.same("and no other", x.about(1, 4), 12);
            Play.loseFirst(x, 1, 11);
            DUE.same("it is the one last", sentAs(12).arrives(x, 1), true);
        }
    }

    private static void testEachRowIsFullByItself() {
        RollbackPair x = sentBy(0, 13);
        x.advance(1, 0);
        DUE.same("the row to 1 is full", x.about(1, 4), 12);
        DUE.same("the row to 0 is not", x.about(0, 4), 1);
        DUE.same("twice there", x.alter(0, 1), true);
        DUE.same("and not here", x.alter(1, 1), false);
    }

    private static void testCopiesFillTheRow() {
        RollbackPair x = sentBy(0, 10);
        DUE.same("the eleventh", x.alter(1, 1), true);
        DUE.same("the twelfth", x.alter(1, 1), true);
        DUE.same("no thirteenth", x.alter(1, 1), false);
        x.advance(0, 0);
        DUE.same("nor one that is sent", x.about(1, 4), 12);
        DUE.same("to the end, which needs no room", x.alter(1, 2), true);
        DUE.same("still twelve", x.about(1, 4), 12);
        Play.loseFirst(x, 1, 11);
        DUE.same("the first is at the end", sentAs(0).arrives(x, 1), true);
    }
}
