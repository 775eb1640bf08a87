import java.util.Random;

/**
 * What it is: over a network that loses, doubles, turns round and spoils packets, what both peers
 * know for certain is the same at both. A peer that has cut off the other one holds its inputs to
 * be 0 from there on, so beyond that frame the two are free to differ.
 */
public final class WhatItIsTest {
    private static final Due DUE = new Due();
    private static final int RUNS = 600;
    private static final int CALLS = 400;

    private final Random random;
    private final RollbackPair pair;
    private final String name;
    /** Of 100 packets: how many are not just delivered, but altered or spoilt first. */
    private final int troubled;
    private int again;
    private int dropped;

    public static void main(String[] args) {
        int far = 0;
        int again = 0;
        int dropped = 0;
        int cutOff = 0;
        for (int seed = 0; seed < RUNS && !DUE.hasWrong(); seed++) {
            WhatItIsTest test = new WhatItIsTest(seed);
            test.run();
            far += test.sureAtBoth() > 50 ? 1 : 0;
            again += test.again;
            dropped += test.dropped;
            cutOff += test.hasCutOff() ? 1 : 0;
        }
        DUE.same("runs went far", far > 100, true);
        DUE.same("frames were played again", again > 1000, true);
        DUE.same("packets were dropped", dropped > 1000, true);
        DUE.same("some runs cut off", cutOff > 10, true);
        DUE.end();
    }

    private WhatItIsTest(int seed) {
        random = new Random(seed);
        int delay = random.nextInt(5);
        int window = 1 + random.nextInt(8);
        pair = new RollbackPair(delay, window, 32767 - random.nextInt(100));
        name = "run " + seed + " (" + delay + ", " + window + ")";
        troubled = random.nextInt(4) * 20;
    }

    private void run() {
        int calls = 0;
        while (calls < CALLS) {
            int peer = random.nextInt(2);
            if (random.nextInt(100) < 45) {
                pair.advance(peer, random.nextInt(8));
                calls++;
            } else {
                calls += carry(peer);
            }
        }
        compareFrames();
    }

    /** A packet is spoilt once at most before it arrives, which its check always shows. */
    private int carry(int peer) {
        if (random.nextInt(100) >= troubled) {
            arrive(peer);
            return 1;
        }
        int trouble = random.nextInt(4);
        if (trouble < 3) {
            pair.alter(peer, trouble);
            return 1;
        }
        boolean spoilt = pair.spoil(peer, random.nextInt(7), 1 << random.nextInt(16));
        int answer = arrive(peer);
        DUE.same(name + ": a spoilt packet", answer, spoilt ? -2 : RollbackPair.NONE);
        return 2;
    }

    private int arrive(int peer) {
        int answer = pair.deliver(peer);
        again += Math.max(0, answer);
        dropped += answer == -2 ? 1 : 0;
        return answer;
    }

    private boolean hasCutOff() {
        return pair.about(0, 3) >= 0 || pair.about(1, 3) >= 0;
    }

    private int sureAtBoth() {
        int sure = Math.min(pair.about(0, 1), pair.about(1, 1));
        for (int peer = 0; peer < 2; peer++) {
            int cutAt = pair.about(peer, 3);
            sure = cutAt < 0 ? sure : Math.min(sure, cutAt);
        }
        return sure;
    }

    /** The frames that both know for certain and are not more than 15 back at either. */
    private void compareFrames() {
        int sure = sureAtBoth();
        int oldest = Math.max(0, Math.max(pair.about(0, 0), pair.about(1, 0)) - 15);
        for (int frame = oldest; frame <= sure; frame++) {
            String where = name + ", frame " + frame + ": ";
            DUE.same(where + "sum at both", pair.sum(0, frame), pair.sum(1, frame));
            for (int player = 0; player < 2 && frame < sure; player++) {
                int used = pair.used(0, player, frame);
                DUE.same(where + "used at both", used, pair.used(1, player, frame));
                DUE.same(where + "an input", used >= 0, true);
            }
        }
    }
}
