import java.util.Objects;

/** Counts the answers that are not as due; every test of the project ends with its verdict. */
final class Checks {
    private int made;
    private int wrong;

    void due(String call, Object got, Object want) {
        made++;
        if (!Objects.equals(got, want)) {
            wrong++;
            System.out.println(call + " answered " + got + ", due is " + want);
        }
    }

    /** All packets, each told by its time, its first byte and its size (see Packets.keepBytes). */
    void packetsAre(PacketStore x, String when, int... told) {
        due(when + ": packets", x.count(0), told.length / 3);
        int bytes = 0;
        for (int k = 0; k < told.length / 3; k++) {
            int size = told[3 * k + 2];
            due(when + ": time of " + k, x.about(k, 0), told[3 * k]);
            due(when + ": size of " + k, x.about(k, 1), size);
            for (int j = 0; j < size; j++) {
                due(when + ": byte " + j + " of " + k, x.byteAt(k, j), told[3 * k + 1] + j & 0xff);
            }
            due(when + ": byte behind " + k, x.byteAt(k, size), PacketStore.NONE);
            bytes += size;
        }
        due(when + ": bytes", x.count(1), bytes);
    }

    int made() {
        return made;
    }

    void endWithVerdict(String test) {
        System.out.println(test + ": " + made + " answers, " + wrong + " not as due");
        if (wrong != 0 || made == 0) {
            System.exit(1);
        }
    }
}
