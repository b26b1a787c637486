import java.util.ArrayList;
import java.util.Arrays;
import java.util.List;
import java.util.Random;

/**
 * Many runs of chosen-by-seed calls, each answer held against a plain model of the document. The
 * seeds are fixed, so that every run of the test makes the same calls.
 */
public final class ModelTest {
    private static final int[] EDGES = {
        Integer.MIN_VALUE, Integer.MIN_VALUE + 1, -1, 0, 1, 63, 64, 65, 511, 512, 16384,
        Integer.MAX_VALUE - 1, Integer.MAX_VALUE};

    private static final Checks checks = new Checks();

    private ModelTest() {
    }

    public static void main(String[] args) {
        for (int seed = 0; seed < 2000; seed++) {
            run(seed, 512, 1 + seed % 70);
        }
        // Longer than the document promises: the class must not lose its way there either.
        for (int seed = 2000; seed < 2020; seed++) {
            run(seed, 50_000, 1 + seed * 37 % 600);
        }
        checks.endWithVerdict("ModelTest");
    }

    private static void run(int seed, int calls, int mostPuts) {
        Random random = new Random(seed);
        int room = random.nextInt(8) == 0 ? edge(random) : 40 + random.nextInt(120);
        PacketStore store = new PacketStore(room);
        Model model = new Model(room);
        int puts = random.nextInt(mostPuts);
        for (int n = 0; n < calls; n++) {
            String where = "seed " + seed + ", call " + n + ": ";
            if (puts > 0) {
                puts--;
                int b = random.nextInt();
                checks.due(where + "put(" + b + ")", store.put(b), model.put(b));
            } else {
                call(where, random, store, model);
                puts = random.nextInt(3) == 0 ? random.nextInt(mostPuts) : 0;
            }
        }
    }

    private static void call(String where, Random random, PacketStore store, Model model) {
        int a = random.nextInt(20) == 0 ? edge(random) : random.nextInt(12);
        int b = random.nextInt(20) == 0 ? edge(random) : random.nextInt(40);
        switch (random.nextInt(14)) {
            case 0, 1, 2 -> checks.due(where + "keep(" + a + ")", store.keep(a), model.keep(a));
            case 3 -> checks.due(where + "delete(" + a / 2 + ")",
                    store.delete(a / 2), model.delete(a / 2));
            case 4, 5 -> checks.due(where + "begin(" + a + ", " + b + ")",
                    store.begin(a, b), model.begin(a, b));
            case 6 -> {
                if (random.nextInt(4) == 0) {
                    checks.due(where + "stop()", store.stop(), model.stop());
                }
            }
            case 7, 8, 9 -> checks.due(where + "next(" + b + ")", store.next(b), model.next(b));
            case 10 -> checks.due(where + "out(" + b + ")", store.out(b), model.out(b));
            case 11 -> checks.due(where + "count(" + a + ")", store.count(a), model.count(a));
            case 12 -> checks.due(where + "about(" + a + ", " + b % 4 + ")",
                    store.about(a, b % 4), model.about(a, b % 4));
            default -> checks.due(where + "byteAt(" + a + ", " + b + ")",
                    store.byteAt(a, b), model.byteAt(a, b));
        }
    }

    private static int edge(Random random) {
        return EDGES[random.nextInt(EDGES.length)];
    }

    private record Packet(int number, int time, int[] bytes) {
    }

    /** The document's words, on lists; the retrieval remembers the number of the last looked at. */
    private static final class Model {
        private final int room;
        private final List<Packet> packets = new ArrayList<>();
        private int[] text = {};
        private int[] out = {};
        private boolean underWay;
        private int from;
        private int to;
        private int lookedAt;
        private int come;
        private int drivenOut;
        private int deleted;

        Model(int room) {
            this.room = room < 64 ? 64 : room > 16384 ? 16384 : room;
        }

        int put(int b) {
            if (text.length == 512) {
                return PacketStore.NONE;
            }
            text = Arrays.copyOf(text, text.length + 1);
            text[text.length - 1] = b & 255;
            return text.length;
        }

        int keep(int time) {
            int[] bytes = text;
            text = new int[0];
            if (bytes.length == 0) {
                return PacketStore.NONE;
            }
            if (bytes.length > room) {
                return PacketStore.FULL;
            }
            int gone = 0;
            while (used() + bytes.length > room) {
                packets.remove(0);
                gone++;
            }
            drivenOut += gone;
            come++;
            packets.add(new Packet(come, time, bytes));
            return gone;
        }

        int delete(int time) {
            int gone = 0;
            while (!packets.isEmpty() && packets.get(0).time() <= time) {
                packets.remove(0);
                gone++;
            }
            deleted += gone;
            return gone;
        }

        boolean begin(int from, int to) {
            if (underWay) {
                return false;
            }
            underWay = true;
            this.from = from;
            this.to = to;
            lookedAt = 0;
            return true;
        }

        boolean stop() {
            boolean was = underWay;
            underWay = false;
            return was;
        }

        int next(int most) {
            if (!underWay) {
                return PacketStore.NONE;
            }
            for (Packet packet : packets) {
                boolean isNew = packet.number() > lookedAt;
                if (isNew && packet.time() >= from && packet.time() <= to) {
                    if (packet.bytes().length > most) {
                        return PacketStore.FULL;
                    }
                    lookedAt = packet.number();
                    out = packet.bytes();
                    return out.length;
                }
            }
            underWay = false;
            return PacketStore.NONE;
        }

        int out(int j) {
            return j >= 0 && j < out.length ? out[j] : PacketStore.NONE;
        }

        int count(int what) {
            return switch (what) {
                case 0 -> packets.size();
                case 1 -> used();
                case 2 -> come;
                case 3 -> drivenOut;
                case 4 -> deleted;
                case 5 -> underWay ? 1 : 0;
                case 6 -> out.length;
                case 7 -> room;
                default -> PacketStore.NONE;
            };
        }

        int about(int k, int what) {
            if (k < 0 || k >= packets.size()) {
                return PacketStore.NONE;
            }
            return switch (what) {
                case 0 -> packets.get(k).time();
                case 1 -> packets.get(k).bytes().length;
                default -> PacketStore.NONE;
            };
        }

        int byteAt(int k, int j) {
            if (k < 0 || k >= packets.size() || j < 0 || j >= packets.get(k).bytes().length) {
                return PacketStore.NONE;
            }
            return packets.get(k).bytes()[j];
        }

        private int used() {
            int used = 0;
            for (Packet packet : packets) {
                used += packet.bytes().length;
            }
            return used;
        }
    }
}
