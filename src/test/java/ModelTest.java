import java.util.Random;

/** Long runs of calls, the same each time, at the class and at a plain model of the document. */
public final class ModelTest {
    private static final Due DUE = new Due();
    private static final int RUNS = 6000;
    private static final int CALLS = 340;

    private final Random random;
    private final RollbackPair pair;
    private final Model model;
    private final String name;
    /** How often, of 100 calls, each kind of call comes: advance, deliver, alter, spoil, forge. */
    private final int[] shares;
    private final int ofPeer0;
    private final boolean towards;

    public static void main(String[] args) {
        int[] reached = new int[3];
        for (int seed = 0; seed < RUNS && !DUE.hasWrong(); seed++) {
            ModelTest test = new ModelTest(seed);
            test.runCalls();
            test.compareAll();
            test.note(reached);
        }
        DUE.same("some runs cut off", reached[0] > 100, true);
        DUE.same("some runs hit", reached[1] > 100, true);
        DUE.same("some runs go far", reached[2] > 100, true);
        DUE.end();
    }

    private ModelTest(int seed) {
        random = new Random(seed);
        int delay = random.nextInt(7) - 1;
        int window = random.nextInt(11) - 1;
        int start = random.nextBoolean() ? 32767 - random.nextInt(40) : random.nextInt();
        name = "run " + seed + " (" + delay + ", " + window + ", " + start + ")";
        pair = new RollbackPair(delay, window, start);
        model = new Model(delay, window, start);
        int[][] profiles = {
            {50, 40, 10, 0, 0}, {45, 45, 4, 3, 3}, {50, 49, 1, 0, 0}, {40, 25, 5, 5, 25},
            {90, 8, 2, 0, 0}, {48, 40, 2, 0, 10}};
        shares = profiles[random.nextInt(profiles.length)];
        towards = random.nextInt(3) != 0;
        ofPeer0 = random.nextInt(4) == 0 ? 90 : 50;
    }

    private int anyPeer() {
        return random.nextInt(100) < ofPeer0 ? 0 : 1;
    }

    private void runCalls() {
        int calls = 0;
        while (calls < CALLS) {
            int dice = random.nextInt(100);
            int kind = 0;
            while (kind < 4 && dice >= shares[kind]) {
                dice -= shares[kind];
                kind++;
            }
            calls += call(kind, calls);
        }
    }

    private int call(int kind, int calls) {
        int peer = anyPeer();
        String where = name + " call " + calls + ": ";
        switch (kind) {
            case 0: {
                int input = random.nextInt(3) == 0 ? random.nextInt(8) : (peer == 0) == towards ? 2 : 1;
                int got = pair.advance(peer, input);
                DUE.same(where + "advance " + peer, got, model.advance(peer, input));
                break;
            }
            case 1:
                peer = 1 - peer;
                DUE.same(where + "deliver " + peer, pair.deliver(peer), model.deliver(peer));
                break;
            case 2: {
                int how = random.nextInt(3);
                boolean got = pair.alter(peer, how);
                DUE.same(where + "alter " + peer, got, model.alter(peer, how));
                break;
            }
            case 3:
                spoil(where, peer, random.nextInt(7), random.nextInt());
                break;
            default:
                return forge(where, peer);
        }
        DUE.same(where + "sum", pair.sum(peer, pair.about(peer, 0)), sumNow(peer));
        return 3;
    }

    private int sumNow(int peer) {
        return model.sum(peer, model.sides[peer].at());
    }

    private void spoil(String where, int peer, int part, int bits) {
        boolean got = pair.spoil(peer, part, bits);
        DUE.same(where + "spoil " + peer, got, model.spoil(peer, part, bits));
    }

    /** Spoils a part, mostly into something near to what it was, and makes the check right again. */
    private int forge(String where, int peer) {
        if (model.rows.get(peer).isEmpty()) {
            return 1;
        }
        Parts packet = model.rows.get(peer).get(0);
        int part = random.nextInt(6);
        int[] parts = {packet.number, packet.frame, packet.ack, packet.first, packet.count};
        int mask = random.nextInt();
        if (part < 5 && random.nextInt(8) != 0) {
            int near = parts[part] + random.nextInt(part == 4 ? 40 : 13) - 6;
            mask = parts[part] ^ near;
        }
        spoil(where, peer, part, mask);
        int fix = packet.check() ^ model.checks.get(peer).get(0);
        spoil(where, peer, 6, fix);
        return 2;
    }

    private void compareAll() {
        for (int peer = 0; peer < 2; peer++) {
            String where = name + " at the end, peer " + peer + ": ";
            for (int what = 0; what < 6; what++) {
                DUE.same(where + "about " + what, pair.about(peer, what), model.about(peer, what));
            }
            int at = model.sides[peer].at();
            for (int frame = at - 18; frame < at + 3; frame++) {
                DUE.same(where + "sum " + frame, pair.sum(peer, frame), model.sum(peer, frame));
                for (int player = 0; player < 2; player++) {
                    int got = pair.used(peer, player, frame);
                    DUE.same(where + "used " + frame, got, model.used(peer, player, frame));
                }
            }
            for (int player = 0; player < 2; player++) {
                int due = model.sides[peer].known.get(player).size();
                DUE.same(where + "known " + player, pair.known(peer, player), due);
            }
            compareGame(where, peer, model.game(peer, at));
            DUE.same(where + "advice", pair.advice(peer), model.sides[peer].advice);
        }
    }

    private void compareGame(String where, int peer, Model.Game game) {
        DUE.same(where + "place 0", pair.place(peer, 0), game.place0);
        DUE.same(where + "place 1", pair.place(peer, 1), game.place1);
        DUE.same(where + "speed 0", pair.speed(peer, 0), game.speed0);
        DUE.same(where + "speed 1", pair.speed(peer, 1), game.speed1);
        DUE.same(where + "hits", pair.hits(peer), game.hits);
        DUE.same(where + "work", pair.work(peer), game.work);
    }

    private void note(int[] reached) {
        reached[0] += pair.about(0, 3) >= 0 ? 1 : 0;
        reached[1] += pair.hits(0) > 0 ? 1 : 0;
        reached[2] += pair.about(0, 0) > 40 ? 1 : 0;
    }
}
