/** Terms: the game's edges, which are the walls at 0 and 32 and the least distance of 1. */
public final class TermsGameTest {
    private static final Due DUE = new Due();
    private static final String AT_REST = "000000000000000000000000";

    public static void main(String[] args) {
        testPlaceBelow0();
        testPlaceAbove32();
        testPlayer1Below0();
        testPlayer0Above32();
        testBothWallsInOneFrame();
        testDistanceBelow1();
        testDistanceFromOneAtRest();
        testHitWhenTheyPassedOneAnother();
        testWallsComeBeforeTheHit();
        testHitMayEndBelow0();
        testHitMayEndAbove32();
        testBothOrNoneAndBrakeAtRest();
        DUE.end();
    }

    /**
     * The last frame of a run, as a test tells it: both players are pushed already, and which wall
     * or hit comes then is not worked out here but said by the test. The runs were found by search.
     */
    private static final class LastFrame {
        final RollbackPair pair = new RollbackPair(0, 8, 0);
        final float[] places = new float[2];
        final float[] speeds = new float[2];
        private final int[] inputs = new int[2];
        private int hits;

        LastFrame(String inputs0, String inputs1) {
            int last = Math.min(inputs0.length(), inputs1.length()) - 1;
            for (int i = 0; i < last; i++) {
                Play.frame(pair, inputs0.charAt(i) - '0', inputs1.charAt(i) - '0');
            }
            inputs[0] = inputs0.charAt(last) - '0';
            inputs[1] = inputs1.charAt(last) - '0';
            hits = pair.hits(0);
            push(0);
            push(1);
        }

        private void push(int player) {
            int input = inputs[player];
            float p = (input & 3) == 2 ? 1f : (input & 3) == 1 ? -1f : 0f;
            speeds[player] = pair.speed(0, player) * 0.875f + p * 0.3f;
            if (input >= 4) {
                speeds[player] = speeds[player] * 0.5f;
            }
            places[player] = pair.place(0, player) + speeds[player];
        }

        void turnAt0(int player) {
            places[player] = -places[player];
            speeds[player] = -speeds[player] * 0.5f;
        }

        void turnAt32(int player) {
            places[player] = 64f - places[player];
            speeds[player] = -speeds[player] * 0.5f;
        }

        void hit() {
            float kept = speeds[0];
            speeds[0] = speeds[1];
            speeds[1] = kept;
            float m = (places[0] + places[1]) * 0.5f;
            places[0] = m - 0.5f;
            places[1] = m + 0.5f;
            hits++;
        }

        void isDue(String what) {
            double s = speeds[0];
            double t = speeds[1];
            double work = pair.work(0) + (s * s + t * t);
            Play.frame(pair, inputs[0], inputs[1]);
            for (int peer = 0; peer < 2; peer++) {
                for (int player = 0; player < 2; player++) {
                    String whose = what + ", player " + player + " at peer " + peer;
                    DUE.same(whose + ": place", pair.place(peer, player), places[player]);
                    DUE.same(whose + ": speed", pair.speed(peer, player), speeds[player]);
                }
                DUE.same(what + ": hits", pair.hits(peer), hits);
                DUE.same(what + ": work", pair.work(peer), work);
            }
        }
    }

    private static void testPlaceBelow0() {
        LastFrame above = new LastFrame("17117771211111162", AT_REST);
        DUE.same("just above 0", above.places[0] > 0f && above.places[0] < 1e-7f, true);
        above.isDue("just above 0");

        LastFrame at = new LastFrame("671115131231131", AT_REST);
        DUE.same("at 0", at.places[0], 0.0);
        DUE.same("and on its way", at.speeds[0] < 0f, true);
        at.isDue("at 0");

        LastFrame below = new LastFrame("1153165144717111314", AT_REST);
        DUE.same("just below 0", below.places[0] < 0f && below.places[0] > -1e-7f, true);
        below.turnAt0(0);
        below.isDue("just below 0");
    }

    private static void testPlaceAbove32() {
        LastFrame below = new LastFrame(AT_REST, "2206222230756");
        DUE.same("just below 32", below.places[1], Math.nextDown(32f));
        below.isDue("just below 32");

        LastFrame at = new LastFrame(AT_REST, "322222515223212422");
        DUE.same("at 32", at.places[1], 32.0);
        DUE.same("and on its way", at.speeds[1] > 0f, true);
        at.isDue("at 32");

        LastFrame above = new LastFrame(AT_REST, "2222242012216");
        DUE.same("just above 32", above.places[1], Math.nextUp(32f));
        above.turnAt32(1);
        above.isDue("just above 32");
    }

    private static void testPlayer1Below0() {
        LastFrame last = new LastFrame("000000011111111111110000", "220111114111111111111111");
        DUE.same("player 1 is below 0", last.places[1] < 0f, true);
        last.turnAt0(1);
        last.isDue("player 1 below 0");
    }

    private static void testPlayer0Above32() {
        LastFrame last = new LastFrame("231272222222222222222", "222522220000002205000");
        DUE.same("player 0 is above 32", last.places[0] > 32f, true);
        last.turnAt32(0);
        last.isDue("player 0 above 32");
    }

    private static void testBothWallsInOneFrame() {
        LastFrame last = new LastFrame("11111111", "22222222");
        DUE.same("beyond both", last.places[0] < 0f && last.places[1] > 32f, true);
        last.turnAt0(0);
        last.turnAt32(1);
        last.isDue("both walls");
    }

    private static void testDistanceBelow1() {
        LastFrame above = new LastFrame("112110116121451111", "711411111111111111");
        DUE.same("just above 1", above.places[1] - above.places[0], Math.nextUp(1f));
        above.isDue("just above 1 apart");

        LastFrame at = new LastFrame("11513121071111111131", "11011111111111146131");
        DUE.same("at 1", at.places[1] - at.places[0], 1.0);
        DUE.same("and nearing", at.speeds[1] < at.speeds[0], true);
        at.isDue("1 apart");

        LastFrame below = new LastFrame("111111061123121121107", "311111004111131111111");
        DUE.same("just below 1", below.places[1] - below.places[0], Math.nextDown(1f));
        below.hit();
        below.isDue("just below 1 apart");
    }

    private static void testDistanceFromOneAtRest() {
        LastFrame above = new LastFrame("2222022021222261", AT_REST);
        DUE.same("just before 23", above.places[0], Math.nextDown(23f));
        above.isDue("just before 23");

        LastFrame at = new LastFrame("212222342242225222222", AT_REST);
        DUE.same("at 23", at.places[0], 23.0);
        at.isDue("at 23");

        LastFrame below = new LastFrame("22221322222230044", AT_REST);
        DUE.same("just past 23", below.places[0], Math.nextUp(23f));
        below.hit();
        below.isDue("just past 23");
    }

    private static void testHitWhenTheyPassedOneAnother() {
        LastFrame last = new LastFrame("222220000", "111111111");
        DUE.same("more than 1 past it", last.places[0] - last.places[1] > 1f, true);
        last.hit();
        last.isDue("passed one another");
    }

    private static void testWallsComeBeforeTheHit() {
        LastFrame left = new LastFrame("11111111111011112", "11111111111113111");
        DUE.same("player 1 is below 0", left.places[1] < 0f, true);
        left.turnAt0(1);
        DUE.same("and near the other then", left.places[1] - left.places[0] < 1f, true);
        left.hit();
        left.isDue("left wall, then a hit");

        LastFrame right = new LastFrame("22222222222222222", "22222202222222222");
        DUE.same("player 1 is above 32", right.places[1] > 32f, true);
        right.turnAt32(1);
        DUE.same("and left of the other then", right.places[1] < right.places[0], true);
        right.hit();
        right.isDue("right wall, then a hit");
    }

    /** The places after a hit are m - 0.5 and m + 0.5 as they come; a wall is for the next frame. */
    private static void testHitMayEndBelow0() {
        LastFrame hit = new LastFrame("1111111111111117", "1111111111111111");
        hit.hit();
        DUE.same("below 0 by the hit", hit.places[0] < 0f, true);
        hit.isDue("a hit that ends below 0");

        LastFrame next = new LastFrame("000111111111111111", "111111111111110002");
        DUE.same("below 0 before", next.pair.place(0, 0) < 0f, true);
        DUE.same("below 0 still", next.places[0] < 0f, true);
        next.turnAt0(0);
        next.isDue("the frame after it");
    }

    private static void testHitMayEndAbove32() {
        LastFrame hit = new LastFrame("2222222222222222", "1117222223202233");
        hit.hit();
        DUE.same("above 32 by the hit", hit.places[1] > 32f, true);
        hit.isDue("a hit that ends above 32");

        LastFrame next = new LastFrame("222222222222222111", "232222226222222222");
        DUE.same("above 32 before", next.pair.place(0, 1) > 32f, true);
        DUE.same("above 32 still", next.places[1] > 32f, true);
        next.turnAt32(1);
        next.isDue("the frame after it");
    }

    private static void testBothOrNoneAndBrakeAtRest() {
        for (char input : "0347".toCharArray()) {
            LastFrame last = new LastFrame("" + input, "" + input);
            DUE.same("no push by " + input, last.speeds[0], 0.0);
            last.isDue("input " + input + " at rest");
        }
    }
}
