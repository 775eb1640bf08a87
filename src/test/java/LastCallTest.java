/** An object is used for at most 512 calls: the 512th is answered as the document says. */
public final class LastCallTest {
    private static final Due DUE = new Due();
    private static final int CALLS = 512;
    private static final int KINDS = 15;

    public static void main(String[] args) {
        for (int kind = 0; kind < KINDS; kind++) {
            testLastCall(kind, true);
            testLastCall(kind, false);
        }
        DUE.end();
    }

    /** A run of 511 calls, one peer alone with as many frames as there can be, or both in turn. */
    private static void testLastCall(int kind, boolean alone) {
        RollbackPair pair = new RollbackPair(4, 8, 32700);
        Model model = new Model(4, 8, 32700);
        for (int call = 1; call < CALLS; call++) {
            int input = call * call / 5 % 8;
            if (alone) {
                DUE.same("advance 0", pair.advance(0, input), model.advance(0, input));
                continue;
            }
            int peer = call / 2 % 2;
            if (call % 2 == 0) {
                DUE.same("advance", pair.advance(peer, input), model.advance(peer, input));
            } else {
                DUE.same("deliver", pair.deliver(peer), model.deliver(peer));
            }
        }
        askLast(kind, pair, model, alone ? "alone" : "both");
    }

    private static void askLast(int kind, RollbackPair pair, Model model, String which) {
        int at = model.sides[0].at();
        DUE.same("far enough", at > 100, true);
        Model.Game now = model.game(0, at);
        String what = "last call, " + which + ", kind " + kind;
        switch (kind) {
            case 0 -> DUE.same(what, pair.advance(0, 5), model.advance(0, 5));
            case 1 -> DUE.same(what, pair.advance(1, 5), model.advance(1, 5));
            case 2 -> DUE.same(what, pair.deliver(1), model.deliver(1));
            case 3 -> DUE.same(what, pair.alter(1, 2), model.alter(1, 2));
            case 4 -> DUE.same(what, pair.spoil(1, 5, 9), model.spoil(1, 5, 9));
            case 5 -> DUE.same(what, pair.about(0, 0), at);
            case 6 -> DUE.same(what, pair.known(0, 0), at + 4);
            case 7 -> DUE.same(what, pair.used(0, 0, at - 15), model.used(0, 0, at - 15));
            case 8 -> DUE.same(what, pair.sum(0, at - 15), model.sum(0, at - 15));
            case 9 -> DUE.same(what, pair.sum(0, at), now.sum());
            case 10 -> DUE.same(what, pair.place(0, 0), now.place0);
            case 11 -> DUE.same(what, pair.speed(0, 1), now.speed1);
            case 12 -> DUE.same(what, pair.hits(0), now.hits);
            case 13 -> DUE.same(what, pair.work(0), now.work);
            default -> DUE.same(what, pair.advice(0), model.sides[0].advice);
        }
    }
}
