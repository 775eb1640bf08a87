/**
 * Two peers that play one game over a bad network: each goes on with guesses of the other one's
 * inputs, and plays again from where a guess turns out to have been wrong.
 */
public final class RollbackPair {
    public static final int NONE = -1;

    private static final int REFUSED = -2;
    private static final int MOST_DELAY = 4;
    private static final int MOST_WINDOW = 8;
    private static final int LAST_INPUT = 7;

    private final Peer[] peers = new Peer[2];

    public RollbackPair(int delay, int window, int start) {
        int heldDelay = Math.max(0, Math.min(MOST_DELAY, delay));
        int heldWindow = Math.max(1, Math.min(MOST_WINDOW, window));
        Row toFirst = new Row();
        Row toSecond = new Row();
        peers[0] = new Peer(0, heldDelay, heldWindow, (short) start, toFirst, toSecond);
        peers[1] = new Peer(1, heldDelay, heldWindow, (short) start, toSecond, toFirst);
    }

    public int advance(int peer, int input) {
        Peer one = find(peer);
        if (one == null || input < 0 || input > LAST_INPUT) {
            return REFUSED;
        }
        return one.goOn(input);
    }

    public int deliver(int peer) {
        Peer one = find(peer);
        if (one == null) {
            return NONE;
        }
        Packet packet = one.arriving.takeFirst();
        if (packet == null) {
            return NONE;
        }
        return one.receive(packet);
    }

    public boolean alter(int peer, int how) {
        Peer one = find(peer);
        if (one == null) {
            return false;
        }
        switch (how) {
            case 0:
                return one.arriving.takeFirst() != null;
            case 1:
                return one.arriving.doubleFirst();
            case 2:
                return one.arriving.sendFirstToEnd();
            default:
                return false;
        }
    }

    public boolean spoil(int peer, int part, int bits) {
        Peer one = find(peer);
        if (one == null) {
            return false;
        }
        Packet packet = one.arriving.first();
        return packet != null && packet.flip(part, bits);
    }

    public int about(int peer, int what) {
        Peer one = find(peer);
        if (one == null) {
            return NONE;
        }
        switch (what) {
            case 0:
                return one.at;
            case 1:
                return one.confirmed();
            case 2:
                return one.stalls;
            case 3:
                return one.others.ended ? one.others.count : NONE;
            case 4:
                return one.arriving.size;
            case 5:
                return one.told;
            default:
                return NONE;
        }
    }

    public int known(int peer, int player) {
        Peer one = find(peer);
        if (one == null || !isPlayer(player)) {
            return NONE;
        }
        return one.inputsOf(player).count;
    }

    public int used(int peer, int player, int frame) {
        Peer one = find(peer);
        if (one == null || !isPlayer(player)) {
            return NONE;
        }
        return one.history.inputPlayed(player, frame, one.at);
    }

    public int sum(int peer, int frame) {
        Peer one = find(peer);
        return one == null ? 0 : one.history.sumBefore(frame, one.at);
    }

    public float place(int peer, int player) {
        Peer one = find(peer);
        if (one == null || !isPlayer(player)) {
            return -100f;
        }
        return one.state().places[player];
    }

    public float speed(int peer, int player) {
        Peer one = find(peer);
        if (one == null || !isPlayer(player)) {
            return 0f;
        }
        return one.state().speeds[player];
    }

    public int hits(int peer) {
        Peer one = find(peer);
        return one == null ? NONE : one.state().hitCount;
    }

    public double work(int peer) {
        Peer one = find(peer);
        return one == null ? -1.0 : one.state().workDone;
    }

    public float advice(int peer) {
        Peer one = find(peer);
        return one == null ? 0f : one.lead;
    }

    private Peer find(int peer) {
        return isPlayer(peer) ? peers[peer] : null;
    }

    private static boolean isPlayer(int number) {
        return number == 0 || number == 1;
    }

    /** One side of the game: what it knows, what it played, and the rows from and to the other. */
    private static final class Peer {
        static final int STALLS_TO_CUT = 12;
        static final int REACH = 20;
        /** Room for each frame of 512 calls: an ack may lag behind by all of them. */
        static final int OWN_ROOM = 1024;
        /** Only the frames from WINDOW + 1 before to REACH beyond the present one are looked at. */
        static final int OTHERS_ROOM = 32;

        final int player;
        final int window;
        final Row arriving;
        final Row leaving;
        final Inputs own;
        final Inputs others;
        final History history = new History();
        int at;
        int stalls;
        int told;
        short nextNumber;
        short latestNumber;
        boolean hasTaken;
        float lead;

        Peer(int player, int delay, int window, short start, Row arriving, Row leaving) {
            this.player = player;
            this.window = window;
            this.arriving = arriving;
            this.leaving = leaving;
            own = new Inputs(OWN_ROOM, delay);
            others = new Inputs(OTHERS_ROOM, delay);
            told = delay;
            nextNumber = start;
        }

        Inputs inputsOf(int which) {
            return which == player ? own : others;
        }

        State state() {
            return history.before(at);
        }

        int confirmed() {
            int both = Math.min(own.count, others.ended ? at : others.count);
            return Math.min(at, both);
        }

        int goOn(int input) {
            if (!others.ended && at - others.count >= window) {
                stall();
                return NONE;
            }
            // What is known of its own inputs is always DELAY ahead, so the next one is the due one.
            own.learn(input);
            playFrames(at, at + 1);
            at++;
            sendPacket();
            return at - 1;
        }

        private void stall() {
            stalls++;
            if (stalls == STALLS_TO_CUT) {
                others.ended = true;
                playFrames(firstWrong(others.count), at);
            }
        }

        private void playFrames(int from, int end) {
            for (int frame = from; frame < end; frame++) {
                history.play(frame, inputsOf(0).use(frame), inputsOf(1).use(frame));
            }
        }

        /** The first frame played with another input of the other one than now; AT if none was. */
        private int firstWrong(int from) {
            for (int frame = from; frame < at; frame++) {
                if (history.inputPlayed(1 - player, frame, at) != others.use(frame)) {
                    return frame;
                }
            }
            return at;
        }

        private void sendPacket() {
            short number = nextNumber;
            nextNumber = (short) (number + 1);
            Packet packet = leaving.addLast();
            // A packet that finds no room is lost, but it was sent and so has had its number.
            if (packet != null) {
                packet.number = number;
                packet.frame = at;
                packet.ack = others.count;
                packet.carry(own, told);
                packet.check = packet.rightCheck();
            }
        }

        int receive(Packet packet) {
            if (!takes(packet)) {
                return REFUSED;
            }
            hasTaken = true;
            latestNumber = packet.number;
            stalls = 0;
            lead = lead * 0.75f + 0.25f * (float) (at - packet.frame);
            if (packet.ack > told && packet.ack <= own.count) {
                told = packet.ack;
            }
            int knownBefore = others.count;
            learnFrom(packet);
            int from = firstWrong(knownBefore);
            playFrames(from, at);
            return at - from;
        }

        private boolean takes(Packet packet) {
            if (others.ended || packet.check != packet.rightCheck()) {
                return false;
            }
            return !hasTaken || (short) (packet.number - latestNumber) > 0;
        }

        private void learnFrom(Packet packet) {
            int carried = Math.min(Packet.MOST_INPUTS, packet.count);
            for (int i = 0; i < carried; i++) {
                // A spoilt FIRST may wrap here: the frame is negative then and follows nothing.
                int frame = packet.first + i;
                if (frame == others.count && frame - at < REACH) {
                    others.learn(packet.input(i));
                }
            }
        }
    }

    /** What a peer knows of one player's inputs; the frames from 0 to COUNT - 1 are known. */
    private static final class Inputs {
        final byte[] kept;
        int count;
        /** The player is cut off: all its inputs from COUNT on are 0. */
        boolean ended;

        /** The room is a power of two, so that each frame has a place whatever its number is. */
        Inputs(int room, int delay) {
            kept = new byte[room];
            count = delay;
        }

        void learn(int input) {
            kept[count & (kept.length - 1)] = (byte) input;
            count++;
        }

        int use(int frame) {
            if (frame < count) {
                return kept[frame & (kept.length - 1)];
            }
            if (ended || count == 0) {
                return 0;
            }
            return kept[(count - 1) & (kept.length - 1)];
        }
    }

    /** The latest frames as they were played latest: the states before them and their inputs. */
    private static final class History {
        static final int ROOM = 16;
        static final int OLDEST = 15;

        private final State[] states = new State[ROOM];
        private final byte[][] inputs = new byte[2][ROOM];

        History() {
            for (int i = 0; i < ROOM; i++) {
                states[i] = new State();
            }
        }

        State before(int frame) {
            return states[frame & (ROOM - 1)];
        }

        void play(int frame, int inputOfFirst, int inputOfSecond) {
            inputs[0][frame & (ROOM - 1)] = (byte) inputOfFirst;
            inputs[1][frame & (ROOM - 1)] = (byte) inputOfSecond;
            before(frame + 1).follow(before(frame), inputOfFirst, inputOfSecond);
        }

        int inputPlayed(int player, int frame, int at) {
            if (frame < 0 || frame >= at || at - frame > OLDEST) {
                return NONE;
            }
            return inputs[player][frame & (ROOM - 1)];
        }

        int sumBefore(int frame, int at) {
            if (frame < 0 || frame > at || at - frame > OLDEST) {
                return 0;
            }
            return before(frame).total();
        }
    }

    /** A state of the game. */
    private static final class State {
        static final int LEFT = 1;
        static final int RIGHT = 2;
        static final int BRAKE = 4;

        final float[] places = new float[2];
        final float[] speeds = new float[2];
        int hitCount;
        double workDone;

        State() {
            places[0] = 8f;
            places[1] = 24f;
        }

        /** Becomes the state that a frame with these inputs makes of the one before. */
        void follow(State before, int inputOfFirst, int inputOfSecond) {
            move(before, 0, inputOfFirst);
            move(before, 1, inputOfSecond);
            hitCount = before.hitCount;
            if (places[1] - places[0] < 1f) {
                bounceApart();
            }
            double s = speeds[0];
            double t = speeds[1];
            workDone = before.workDone + (s * s + t * t);
        }

        private void move(State before, int player, int input) {
            float push = 0f;
            if ((input & LEFT) != 0) {
                push = push - 1f;
            }
            if ((input & RIGHT) != 0) {
                push = push + 1f;
            }
            float speed = before.speeds[player] * 0.875f + push * 0.3f;
            if ((input & BRAKE) != 0) {
                speed = speed * 0.5f;
            }
            float place = before.places[player] + speed;
            if (place < 0f) {
                place = -place;
                speed = -speed * 0.5f;
            } else if (place > 32f) {
                place = 64f - place;
                speed = -speed * 0.5f;
            }
            places[player] = place;
            speeds[player] = speed;
        }

        private void bounceApart() {
            float speedOfFirst = speeds[0];
            speeds[0] = speeds[1];
            speeds[1] = speedOfFirst;
            float middle = (places[0] + places[1]) * 0.5f;
            places[0] = middle - 0.5f;
            places[1] = middle + 0.5f;
            hitCount++;
        }

        int total() {
            int h = 17;
            for (int player = 0; player < 2; player++) {
                h = h * 31 + (int) (places[player] * 4096f);
                h = h * 31 + (int) (speeds[player] * 4096f);
            }
            h = h * 31 + hitCount;
            return h * 31 + (int) (workDone * 64.0);
        }
    }

    /** A packet; any part of it but the upper half of the bits may have been spoilt. */
    private static final class Packet {
        static final int MOST_INPUTS = 16;
        static final int INPUT_BITS = 3;

        short number;
        int frame;
        int ack;
        int first;
        int count;
        long bits;
        int check;

        void carry(Inputs inputs, int from) {
            first = from;
            count = Math.min(MOST_INPUTS, inputs.count - from);
            bits = 0L;
            for (int i = 0; i < count; i++) {
                bits |= (long) inputs.use(from + i) << INPUT_BITS * i;
            }
        }

        int input(int index) {
            return (int) (bits >>> INPUT_BITS * index) & LAST_INPUT;
        }

        int rightCheck() {
            int h = 23;
            h = h * 37 + number;
            h = h * 37 + frame;
            h = h * 37 + ack;
            h = h * 37 + first;
            h = h * 37 + count;
            h = h * 37 + (int) bits;
            return h * 37 + (int) (bits >>> 32);
        }

        void copyOf(Packet other) {
            number = other.number;
            frame = other.frame;
            ack = other.ack;
            first = other.first;
            count = other.count;
            bits = other.bits;
            check = other.check;
        }

        boolean flip(int part, int mask) {
            switch (part) {
                case 0:
                    number = (short) (number ^ mask);
                    return true;
                case 1:
                    frame ^= mask;
                    return true;
                case 2:
                    ack ^= mask;
                    return true;
                case 3:
                    first ^= mask;
                    return true;
                case 4:
                    count ^= mask;
                    return true;
                case 5:
                    bits ^= mask & 0xFFFFFFFFL;
                    return true;
                case 6:
                    check ^= mask;
                    return true;
                default:
                    return false;
            }
        }
    }

    /** The packets on their way to one peer; its slots are made once and used again. */
    private static final class Row {
        static final int ROOM = 12;

        private final Packet[] slots = new Packet[ROOM];
        int size;

        Row() {
            for (int i = 0; i < ROOM; i++) {
                slots[i] = new Packet();
            }
        }

        Packet first() {
            return size == 0 ? null : slots[0];
        }

        /** A slot at the end to write a packet to; null if the row is full. */
        Packet addLast() {
            if (size == ROOM) {
                return null;
            }
            size++;
            return slots[size - 1];
        }

        /** The first packet, which stays as it is until the next one is added; null if none. */
        Packet takeFirst() {
            Packet packet = first();
            if (sendFirstToEnd()) {
                size--;
            }
            return packet;
        }

        boolean doubleFirst() {
            Packet packet = first();
            if (packet == null) {
                return false;
            }
            Packet copy = addLast();
            if (copy == null) {
                return false;
            }
            copy.copyOf(packet);
            return true;
        }

        boolean sendFirstToEnd() {
            Packet packet = first();
            if (packet == null) {
                return false;
            }
            for (int i = 1; i < size; i++) {
                slots[i - 1] = slots[i];
            }
            slots[size - 1] = packet;
            return true;
        }
    }
}
