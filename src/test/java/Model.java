import java.util.ArrayList;
import java.util.List;

/**
 * The document told once more, as plainly as can be: nothing is ever forgotten, and each state is
 * worked out anew from the inputs of all frames. It takes right arguments only.
 */
final class Model {
    final List<List<Parts>> rows = List.of(new ArrayList<>(), new ArrayList<>());
    final List<List<Integer>> checks = List.of(new ArrayList<>(), new ArrayList<>());
    final Side[] sides = new Side[2];
    private final int window;

    static final class Side {
        final List<List<Integer>> known = List.of(new ArrayList<>(), new ArrayList<>());
        final List<List<Integer>> played = List.of(new ArrayList<>(), new ArrayList<>());
        int stalls;
        int cutAt = -1;
        int told;
        int sent;
        Integer latest;
        float advice;

        int at() {
            return played.get(0).size();
        }

        int inputNow(int player, int frame) {
            List<Integer> inputs = known.get(player);
            if (frame < inputs.size()) {
                return inputs.get(frame);
            }
            boolean guess = cutAt < 0 && !inputs.isEmpty();
            return guess ? inputs.get(inputs.size() - 1) : 0;
        }

        int playAgain(int from) {
            for (int frame = from; frame < at(); frame++) {
                played.get(0).set(frame, inputNow(0, frame));
                played.get(1).set(frame, inputNow(1, frame));
            }
            return at() - from;
        }
    }

    static final class Game {
        float place0 = 8f;
        float speed0 = 0f;
        float place1 = 24f;
        float speed1 = 0f;
        int hits = 0;
        double work = 0.0;

        void frame(int input0, int input1) {
            speed0 = pushed(speed0, input0);
            place0 = place0 + speed0;
            if (place0 < 0f || place0 > 32f) {
                place0 = place0 < 0f ? -place0 : 64f - place0;
                speed0 = -speed0 * 0.5f;
            }
            speed1 = pushed(speed1, input1);
            place1 = place1 + speed1;
            if (place1 < 0f || place1 > 32f) {
                place1 = place1 < 0f ? -place1 : 64f - place1;
                speed1 = -speed1 * 0.5f;
            }
            if (place1 - place0 < 1f) {
                float kept = speed0;
                speed0 = speed1;
                speed1 = kept;
                float m = (place0 + place1) * 0.5f;
                place0 = m - 0.5f;
                place1 = m + 0.5f;
                hits = hits + 1;
            }
            double s = speed0;
            double t = speed1;
            work = work + (s * s + t * t);
        }

        private static float pushed(float speed, int input) {
            float p = (input >> 1 & 1) - (input & 1);
            float next = speed * 0.875f + p * 0.3f;
            return (input & 4) == 4 ? next * 0.5f : next;
        }

        int sum() {
            int h = 17;
            h = h * 31 + (int) (place0 * 4096f);
            h = h * 31 + (int) (speed0 * 4096f);
            h = h * 31 + (int) (place1 * 4096f);
            h = h * 31 + (int) (speed1 * 4096f);
            h = h * 31 + hits;
            h = h * 31 + (int) (work * 64.0);
            return h;
        }
    }

    Model(int delay, int window, int start) {
        int d = delay < 0 ? 0 : delay > 4 ? 4 : delay;
        this.window = window < 1 ? 1 : window > 8 ? 8 : window;
        for (int peer = 0; peer < 2; peer++) {
            sides[peer] = new Side();
            sides[peer].sent = start;
            sides[peer].told = d;
            for (int i = 0; i < d; i++) {
                sides[peer].known.get(0).add(0);
                sides[peer].known.get(1).add(0);
            }
        }
    }

    Game game(int peer, int frame) {
        Game game = new Game();
        for (int i = 0; i < frame; i++) {
            game.frame(sides[peer].played.get(0).get(i), sides[peer].played.get(1).get(i));
        }
        return game;
    }

    int advance(int peer, int input) {
        Side side = sides[peer];
        int others = side.known.get(1 - peer).size();
        if (side.cutAt < 0 && side.at() - others >= window) {
            side.stalls++;
            if (side.stalls == 12) {
                side.cutAt = others;
                side.playAgain(others);
            }
            return -1;
        }
        side.known.get(peer).add(input);
        int frame = side.at();
        int input0 = side.inputNow(0, frame);
        int input1 = side.inputNow(1, frame);
        side.played.get(0).add(input0);
        side.played.get(1).add(input1);
        send(peer);
        return frame;
    }

    private void send(int peer) {
        Side side = sides[peer];
        List<Integer> own = side.known.get(peer);
        int count = 0;
        long bits = 0;
        for (int i = side.told; i < own.size() && count < 16; i++) {
            bits += (long) own.get(i) << 3 * count;
            count++;
        }
        int ack = side.known.get(1 - peer).size();
        Parts packet = new Parts((short) side.sent, side.at(), ack, side.told, count, bits);
        side.sent++;
        if (rows.get(1 - peer).size() < 12) {
            rows.get(1 - peer).add(packet);
            checks.get(1 - peer).add(packet.check());
        }
    }

    int deliver(int peer) {
        if (rows.get(peer).isEmpty()) {
            return -1;
        }
        Side side = sides[peer];
        Parts packet = rows.get(peer).remove(0);
        int check = checks.get(peer).remove(0);
        if (check != packet.check() || side.cutAt >= 0) {
            return -2;
        }
        if (side.latest != null && (short) (packet.number - side.latest) <= 0) {
            return -2;
        }
        side.latest = packet.number;
        side.stalls = 0;
        side.advice = side.advice * 0.75f + 0.25f * (side.at() - packet.frame);
        if (packet.ack > side.told && packet.ack <= side.known.get(peer).size()) {
            side.told = packet.ack;
        }
        return learn(peer, packet);
    }

    private int learn(int peer, Parts packet) {
        Side side = sides[peer];
        List<Integer> others = side.known.get(1 - peer);
        int firstWrong = side.at();
        for (long i = 0; i < 16 && i < packet.count; i++) {
            long frame = packet.first + i;
            if (frame != others.size() || frame >= side.at() + 20) {
                continue;
            }
            int input = (int) (packet.bits >> 3 * i & 7);
            others.add(input);
            boolean wrong = frame < side.at()
                && side.played.get(1 - peer).get((int) frame) != input;
            if (wrong && frame < firstWrong) {
                firstWrong = (int) frame;
            }
        }
        return side.playAgain(firstWrong);
    }

    boolean alter(int peer, int how) {
        List<Parts> row = rows.get(peer);
        List<Integer> rowChecks = checks.get(peer);
        if (row.isEmpty() || how == 1 && row.size() == 12) {
            return false;
        }
        if (how == 1) {
            Parts p = row.get(0);
            row.add(new Parts(p.number, p.frame, p.ack, p.first, p.count, p.bits));
            rowChecks.add(rowChecks.get(0));
            return true;
        }
        Parts first = row.remove(0);
        Integer check = rowChecks.remove(0);
        if (how == 2) {
            row.add(first);
            rowChecks.add(check);
        }
        return true;
    }

    boolean spoil(int peer, int part, int bits) {
        if (rows.get(peer).isEmpty()) {
            return false;
        }
        Parts packet = rows.get(peer).get(0);
        switch (part) {
            case 0 -> packet.number = (short) (packet.number ^ bits);
            case 1 -> packet.frame ^= bits;
            case 2 -> packet.ack ^= bits;
            case 3 -> packet.first ^= bits;
            case 4 -> packet.count ^= bits;
            case 5 -> packet.bits ^= Integer.toUnsignedLong(bits);
            default -> checks.get(peer).set(0, checks.get(peer).get(0) ^ bits);
        }
        return true;
    }

    int about(int peer, int what) {
        Side side = sides[peer];
        int others = side.known.get(1 - peer).size();
        return switch (what) {
            case 0 -> side.at();
            case 1 -> side.cutAt >= 0 ? side.at() : Math.min(side.at(), others);
            case 2 -> side.stalls;
            case 3 -> side.cutAt;
            case 4 -> rows.get(peer).size();
            default -> side.told;
        };
    }

    int used(int peer, int player, int frame) {
        Side side = sides[peer];
        boolean there = frame >= 0 && frame < side.at() && frame >= side.at() - 15;
        return there ? side.played.get(player).get(frame) : -1;
    }

    int sum(int peer, int frame) {
        int at = sides[peer].at();
        return frame >= 0 && frame <= at && frame >= at - 15 ? game(peer, frame).sum() : 0;
    }
}
