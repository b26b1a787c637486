/**
 * A store of packets in a ring of bytes. A new packet drives out the oldest ones until it has
 * room; a retrieval brings out those of a span of times while others come and go.
 */
public final class PacketStore {
    /** Nothing there. */
    public static final int NONE = -1;
    /** No room. */
    public static final int FULL = -2;

    private static final int LEAST_ROOM = 64;
    private static final int MOST_ROOM = 16384;
    // Of the text, and so of every packet and of what comes out.
    private static final int MOST_BYTES = 512;

    private final Ring ring;

    private final byte[] text;
    private int textSize;

    // A copy, because the packet may be gone from the ring while its bytes are still asked for.
    private final byte[] output;
    private int outputSize;

    private boolean underWay;
    private int from;
    private int to;
    // How many of the packets in the ring, from the oldest on, the retrieval has passed. Counted
    // from the oldest, it stays true when a packet comes and needs one step back when one goes.
    private int passed;

    private int come;
    private int drivenOut;
    private int deleted;

    /** A store for so many bytes; what is below 64 or above 16,384 is the nearest of these. */
    public PacketStore(int room) {
        ring = new Ring(Math.max(LEAST_ROOM, Math.min(MOST_ROOM, room)));
        text = new byte[MOST_BYTES];
        output = new byte[MOST_BYTES];
    }

    /** Adds the lowest eight bits of b to the text: how many bytes it has, or NONE if it has 512. */
    public int put(int b) {
        if (textSize >= MOST_BYTES) {
            return NONE;
        }
        text[textSize] = (byte) b;
        textSize++;
        return textSize;
    }

    /**
     * Makes the text a packet, and empties it in any case: how many of the oldest packets are gone
     * for it; NONE if the text has no bytes, FULL if it has more than the whole room.
     */
    public int keep(int time) {
        int size = textSize;
        textSize = 0;
        if (size == 0) {
            return NONE;
        }
        if (size > ring.room()) {
            return FULL;
        }
        int gone = makeRoom(size);
        ring.add(text, size, time);
        drivenOut += gone;
        come++;
        return gone;
    }

    /** Deletes the oldest packets up to the first whose time is after the given one: how many. */
    public int delete(int time) {
        int there = ring.packets();
        int gone = 0;
        while (gone < there && ring.timeOf(0) <= time) {
            dropOldest();
            gone++;
        }
        deleted += gone;
        return gone;
    }

    /** Begins a retrieval of the packets whose times are from .. to; false if one is under way. */
    public boolean begin(int from, int to) {
        if (underWay) {
            return false;
        }
        underWay = true;
        this.from = from;
        this.to = to;
        passed = 0;
        return true;
    }

    /** Ends the retrieval; false if none was under way. */
    public boolean stop() {
        boolean was = underWay;
        underWay = false;
        return was;
    }

    /**
     * Brings out the retrieval's next packet if it has at most so many bytes: how many it has; FULL
     * if it has more; NONE if there is none, which ends the retrieval, or none is under way.
     */
    public int next(int most) {
        if (!underWay) {
            return NONE;
        }
        passUnwanted();
        if (passed >= ring.packets()) {
            underWay = false;
            return NONE;
        }
        int size = ring.sizeOf(passed);
        if (size > most) {
            return FULL;
        }
        ring.copy(passed, size, output);
        outputSize = size;
        passed++;
        return size;
    }

    /** Byte j of what came out last, or NONE. */
    public int out(int j) {
        if (j < 0 || j >= outputSize) {
            return NONE;
        }
        return output[j] & 0xff;
    }

    /**
     * 0: packets, 1: their bytes, 2: packets come in all, 3: driven out, 4: deleted, 5: whether a
     * retrieval is under way, 6: bytes that came out last, 7: the room; NONE for another what.
     */
    public int count(int what) {
        switch (what) {
            case 0:
                return ring.packets();
            case 1:
                return ring.used();
            case 2:
                return come;
            case 3:
                return drivenOut;
            case 4:
                return deleted;
            case 5:
                return underWay ? 1 : 0;
            case 6:
                return outputSize;
            case 7:
                return ring.room();
            default:
                return NONE;
        }
    }

    /** Of the k-th packet from the oldest on, what 0: its time, 1: how many bytes it has; or NONE. */
    public int about(int k, int what) {
        if (!ring.has(k)) {
            return NONE;
        }
        switch (what) {
            case 0:
                return ring.timeOf(k);
            case 1:
                return ring.sizeOf(k);
            default:
                return NONE;
        }
    }

    /** Byte j of the k-th packet from the oldest on, or NONE. */
    public int byteAt(int k, int j) {
        if (!ring.has(k) || j < 0 || j >= ring.sizeOf(k)) {
            return NONE;
        }
        return ring.byteOf(k, j) & 0xff;
    }

    private int makeRoom(int size) {
        int there = ring.packets();
        int gone = 0;
        while (gone < there && ring.used() + size > ring.room()) {
            dropOldest();
            gone++;
        }
        return gone;
    }

    private void dropOldest() {
        ring.dropOldest();
        if (passed > 0) {
            passed--;
        }
    }

    private void passUnwanted() {
        while (passed < ring.packets() && !isWanted(ring.timeOf(passed))) {
            passed++;
        }
    }

    private boolean isWanted(int time) {
        return from <= time && time <= to;
    }

    /**
     * The packets, in the order in which they came. Its methods take a k of a packet that is there
     * (see has) and a size from 1 to the free room: the store looks before it calls.
     */
    private static final class Ring {
        private final int room;
        private final byte[] bytes;
        // A ring of slots, one a packet. Every packet has a byte at least, so that there are never
        // more packets than bytes, and as many slots as bytes are enough.
        private final int[] starts;
        private final int[] times;
        private int oldest;
        private int packets;
        // Where the next packet's first byte goes.
        private int end;
        private int used;

        Ring(int room) {
            this.room = room;
            bytes = new byte[room];
            starts = new int[room];
            times = new int[room];
        }

        int room() {
            return room;
        }

        int packets() {
            return packets;
        }

        int used() {
            return used;
        }

        boolean has(int k) {
            return k >= 0 && k < packets;
        }

        int timeOf(int k) {
            return times[wrapped(oldest + k)];
        }

        int sizeOf(int k) {
            int after = k + 1 < packets ? startOf(k + 1) : end;
            int size = after - startOf(k);
            // No packet is empty: one that ends where it starts has the whole ring.
            return size > 0 ? size : size + room;
        }

        byte byteOf(int k, int j) {
            return bytes[wrapped(startOf(k) + j)];
        }

        void copy(int k, int size, byte[] target) {
            for (int j = 0; j < size; j++) {
                target[j] = byteOf(k, j);
            }
        }

        void add(byte[] source, int size, int time) {
            int slot = wrapped(oldest + packets);
            starts[slot] = end;
            times[slot] = time;
            for (int j = 0; j < size; j++) {
                bytes[wrapped(end + j)] = source[j];
            }
            end = wrapped(end + size);
            packets++;
            used += size;
        }

        void dropOldest() {
            used -= sizeOf(0);
            oldest = wrapped(oldest + 1);
            packets--;
        }

        private int startOf(int k) {
            return starts[wrapped(oldest + k)];
        }

        // Slots and bytes wrap alike: there are as many of the one as of the other.
        private int wrapped(int place) {
            return place < room ? place : place - room;
        }
    }
}
