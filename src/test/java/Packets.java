/** Makes packets whose bytes tell themselves, and looks at all that a store shows. */
final class Packets {
    private Packets() {
    }

    /** Puts so many bytes, first, first + 1 and so on, and keeps them as a packet of the time. */
    static int keepBytes(PacketStore x, int size, int first, int time) {
        for (int j = 0; j < size; j++) {
            x.put(first + j);
        }
        return x.keep(time);
    }

    /** All that a store shows without being changed: the same before and after a refused call. */
    static String seen(PacketStore x) {
        StringBuilder told = new StringBuilder();
        for (int what = 0; what <= 7; what++) {
            told.append(x.count(what)).append(' ');
        }
        told.append("out");
        for (int j = 0; j < x.count(6); j++) {
            told.append(' ').append(x.out(j));
        }
        for (int k = 0; k < x.count(0); k++) {
            told.append(" | ").append(x.about(k, 0)).append(':');
            for (int j = 0; j < x.about(k, 1); j++) {
                told.append(' ').append(x.byteAt(k, j));
            }
        }
        return told.toString();
    }
}
