/**
 * Each sentence of the document that names a boundary case has one test here; a wrong answer is told
 * with the promise and the sentence. Some tests make more than 512 calls, where the document leaves
 * the answers free: the edges that its sentences name (a text of 512 bytes, a room of 16,384) lie
 * there, and the class holds them all the same.
 */
public final class BoundaryTest {
    private static final int NONE = -1;
    private static final int FULL = -2;
    private static final int MIN = Integer.MIN_VALUE;
    private static final int MAX = Integer.MAX_VALUE;

    private static final Checks checks = new Checks();
    private static String underTest;

    private BoundaryTest() {
    }

    public static void main(String[] args) {
        sentence("Promise 1", "For so many bytes, 64 .. 16,384 (what is less or more is the nearest"
                + " of these).", BoundaryTest::roomIsTheNearest);
        sentence("Promise 1", "The text and what came out are empty.",
                BoundaryTest::textAndOutputAreEmptyAtFirst);
        sentence("Promise 2", "A byte more of the text, the lowest eight bits of b: how many it has;"
                + " NONE, if it has 512.", BoundaryTest::putAnswersUpTo512);
        sentence("Promise 3", "The text (which is empty then, whatever comes of it) is a packet of a"
                + " time: how many of the oldest ones are gone for it.",
                BoundaryTest::keepEmptiesTheTextAndDrivesOutNoMoreThanItMust);
        sentence("Promise 3", "NONE if it has no bytes; FULL, and nothing else happens, if it has"
                + " more than there is room for at all.", BoundaryTest::keepRefuses);
        sentence("Promise 4", "The oldest ones whose times are up to a time are gone, up to the first"
                + " whose time is not: how many.", BoundaryTest::deleteEndsAtTheFirstLaterOne);
        sentence("Promise 5", "true; false if one is under way.",
                BoundaryTest::beginIsRefusedWhileUnderWay);
        sentence("Promise 6", "true; false if none was.", BoundaryTest::stopIsRefusedWhenNoneIs);
        sentence("Promise 7", "FULL if it has more (it is the next one still).",
                BoundaryTest::nextWaitsForRoom);
        sentence("Promise 7", "NONE if there is none (then the retrieval is under way no more), or"
                + " none is under way.", BoundaryTest::nextEndsWhenThereIsNone);
        sentence("Promise 8", "Byte j of what came out last; NONE if there is none.",
                BoundaryTest::outHasItsEnds);
        sentence("Promise 9", "NONE for another what.", BoundaryTest::countKnowsNoOtherWhat);
        sentence("Promise 10", "NONE if there is none.", BoundaryTest::aboutHasItsEnds);
        sentence("Promise 11", "Byte j of the k-th packet; NONE if there is none.",
                BoundaryTest::byteAtHasItsEnds);
        sentence("Terms", "A PACKET has 1 to 512 BYTES and a TIME (any int).",
                BoundaryTest::packetHas1To512BytesAndAnyTime);
        sentence("Terms", "The store has room for as many bytes of packets as it was made for; they"
                + " are there in the order in which they came: the oldest is the first.",
                BoundaryTest::packetsFillTheRoomInOrder);
        sentence("Terms", "looks at each packet once, in order, those that are there when it begins"
                + " and those that come later; what is gone before it looks at it, it misses.",
                BoundaryTest::retrievalLooksAtEachOnce);
        checks.endWithVerdict("BoundaryTest");
    }

    // Promise 1

    private static void roomIsTheNearest() {
        int[][] givenAndDue = {
            {MIN, 64}, {MIN + 1, 64}, {-16384, 64}, {-64, 64}, {-1, 64}, {0, 64}, {1, 64}, {63, 64},
            {64, 64}, {65, 65}, {511, 511}, {512, 512}, {513, 513}, {16383, 16383},
            {16384, 16384}, {16385, 16384}, {32768, 16384}, {65600, 16384}, {MAX, 16384}};
        for (int[] pair : givenAndDue) {
            PacketStore x = new PacketStore(pair[0]);
            String made = "made for " + pair[0] + ": ";
            due(made + "count(7)", x.count(7), pair[1]);
            due(made + "packets gone while there was room", fill(x, pair[1]), 0);
            due(made + "bytes when full", x.count(1), pair[1]);
            due(made + "keep of a byte more", keepBytes(x, 1, 0, 1), 1);
        }
    }

    private static void textAndOutputAreEmptyAtFirst() {
        int[] rooms = {MIN, 64, 512, 16384, MAX};
        for (int room : rooms) {
            PacketStore x = new PacketStore(room);
            due("count(6)", x.count(6), 0);
            due("out(0)", x.out(0), NONE);
            due("out(511)", x.out(511), NONE);
            due("keep of the first text", x.keep(1), NONE);
            due("first put", new PacketStore(room).put(1), 1);
        }
    }

    // Promise 2

    private static void putAnswersUpTo512() {
        int[] given = {0, 1, 127, 128, 255, 256, 257, -1, -128, -129, -256, 0x1280, MIN, MAX};
        int[] bytes = {0, 1, 127, 128, 255, 0, 1, 255, 128, 127, 0, 0x80, 0, 255};
        PacketStore x = new PacketStore(512);
        for (int n = 0; n < 512; n++) {
            due("put number " + (n + 1), x.put(given[n % given.length]), n + 1);
        }
        due("put number 513", x.put(77), NONE);
        due("put number 514", x.put(77), NONE);
        due("keep of the full text", x.keep(1), 0);
        due("its size", x.about(0, 1), 512);
        for (int j = 0; j < 512; j++) {
            due("byte " + j, x.byteAt(0, j), bytes[j % bytes.length]);
        }
        due("put after the full text was kept", x.put(1), 1);
    }

    // Promise 3

    private static void keepEmptiesTheTextAndDrivesOutNoMoreThanItMust() {
        PacketStore x = new PacketStore(64);
        due("keep of 64, the whole room", keepBytes(x, 64, 0, 1), 0);
        textIsEmpty(x, "a packet");
        due("keep of 65", keepBytes(x, 65, 0, 2), FULL);
        textIsEmpty(x, "FULL");
        due("keep of nothing", x.keep(2), NONE);
        textIsEmpty(x, "NONE");

        PacketStore y = new PacketStore(64);
        keepBytes(y, 1, 10, 1);
        keepBytes(y, 2, 20, 2);
        due("keep that just fits", keepBytes(y, 61, 30, 3), 0);
        due("keep of as much as the oldest has", keepBytes(y, 1, 100, 4), 1);
        due("keep of one more than the oldest has", keepBytes(y, 3, 110, 5), 2);
        due("keep of as much as is free", keepBytes(y, 60, 120, 6), 0);
        packetsAre(y, "full again", 4, 100, 1, 5, 110, 3, 6, 120, 60);
        due("keep of the whole room", keepBytes(y, 64, 0, 7), 3);
        due("keep of the whole room again", keepBytes(y, 64, 5, 8), 1);
        packetsAre(y, "the whole room", 8, 5, 64);
        due("driven out", y.count(3), 7);
    }

    private static void textIsEmpty(PacketStore x, String after) {
        due("put after " + after, x.put(200), 1);
        x.keep(9);
        int newest = x.count(0) - 1;
        due("size after " + after, x.about(newest, 1), 1);
        due("byte after " + after, x.byteAt(newest, 0), 200);
    }

    private static void keepRefuses() {
        keepRefusesNoBytes();
        int[] rooms = {64, 65, 100, 511};
        for (int room : rooms) {
            keepRefusesMoreThan(room);
        }
        due("512 in a room of 512", keepBytes(new PacketStore(512), 512, 0, 1), 0);
    }

    private static void keepRefusesNoBytes() {
        PacketStore x = new PacketStore(64);
        due("keep of nothing in an empty store", x.keep(0), NONE);
        fill(x, 64);
        String before = Packets.seen(x);
        due("keep of nothing in a full store", x.keep(MIN), NONE);
        due("keep of nothing again", x.keep(MAX), NONE);
        due("the store after keep of nothing", Packets.seen(x), before);
    }

    private static void keepRefusesMoreThan(int room) {
        PacketStore x = new PacketStore(room);
        due("too many for an empty store of " + room, keepBytes(x, room + 1, 0, 1), FULL);
        keepBytes(x, 2, 10, 1);
        keepBytes(x, 3, 20, 2);
        x.begin(1, 2);
        x.next(2);
        String before = Packets.seen(x);
        due("one too many for " + room, keepBytes(x, room + 1, 0, 1), FULL);
        due("512 for " + room, keepBytes(x, 512, 0, 1), FULL);
        due("the store after FULL", Packets.seen(x), before);
        due("the retrieval goes on after FULL", x.next(3), 3);
        due("as many as there is room for", keepBytes(x, room, 0, 1), 2);
    }

    // Promise 4

    private static void deleteEndsAtTheFirstLaterOne() {
        PacketStore x = new PacketStore(64);
        due("delete in a new store", x.delete(MAX), 0);
        keepTimes(x, 5, 5, 6, 4, 7, 3);
        due("one below the oldest", x.delete(4), 0);
        due("the oldest one's time", x.delete(5), 2);
        due("6 stands before 4", x.delete(5), 0);
        due("6 and 4, not 3 behind 7", x.delete(6), 2);
        packetsAre(x, "left", 7, 7, 2, 3, 3, 2);
        due("the last two", x.delete(7), 2);
        due("delete in an empty store", x.delete(MAX), 0);
        due("deleted in all", x.count(4), 6);
        due("driven out", x.count(3), 0);
        due("their room is free", keepBytes(x, 64, 0, 1), 0);

        PacketStore y = new PacketStore(64);
        keepTimes(y, MIN, MIN + 1, -1, 0, 1, MAX - 1, MAX);
        int[] times = {MIN, MIN + 1, -2, -1, 0, MAX - 2, MAX - 1, MAX};
        int[] gone = {1, 1, 0, 1, 1, 1, 1, 1};
        for (int n = 0; n < times.length; n++) {
            due("delete(" + times[n] + ")", y.delete(times[n]), gone[n]);
        }
        keepTimes(y, MIN, MAX);
        due("MIN is up to MAX - 1", y.delete(MAX - 1), 1);
        due("MAX is not up to MIN", y.delete(MIN), 0);
        deleteOverTheEndOfTheRing();
    }

    private static void deleteOverTheEndOfTheRing() {
        PacketStore x = new PacketStore(64);
        keepBytes(x, 50, 0, 1);
        keepBytes(x, 30, 60, 2);
        keepBytes(x, 20, 100, 3);
        keepBytes(x, 14, 130, 4);
        due("delete of the one that wraps round", x.delete(2), 1);
        packetsAre(x, "behind it", 3, 100, 20, 4, 130, 14);
        due("delete of the rest", x.delete(4), 2);
        due("bytes left", x.count(1), 0);
    }

    // Promise 5

    private static void beginIsRefusedWhileUnderWay() {
        PacketStore x = new PacketStore(64);
        due("begin in a new store", x.begin(1, 1), true);
        due("begin at once again", x.begin(1, 1), false);
        x.stop();
        keepTimes(x, 1, 2, 1, 2);
        due("begin after stop", x.begin(1, 1), true);
        due("first of the span", x.next(9), 2);
        String before = Packets.seen(x);
        due("begin of another span", x.begin(2, 2), false);
        due("the store after the refusal", Packets.seen(x), before);
        due("begin after FULL", givenNext(x, 1, FULL).begin(2, 2), false);
        due("the span's next one", x.next(9), 2);
        due("it is the third", x.out(0), 1);
        due("begin behind the last one", x.begin(2, 2), false);
        due("begin after the end", givenNext(x, 9, NONE).begin(2, 2), true);
        due("first of the other span", x.next(9), 2);
        due("it is the second", x.out(0), 2);
        due("begin with no time between", new PacketStore(64).begin(MAX, MIN), true);
        due("begin of all times", new PacketStore(64).begin(MIN, MAX), true);
    }

    // Promise 6

    private static void stopIsRefusedWhenNoneIs() {
        PacketStore x = new PacketStore(64);
        due("stop in a new store", x.stop(), false);
        keepTimes(x, 1, 2);
        x.begin(1, 2);
        due("stop at once", x.stop(), true);
        due("under way", x.count(5), 0);
        due("stop again", x.stop(), false);
        x.begin(1, 2);
        x.begin(1, 2);
        due("stop after a refused begin", x.stop(), true);
        due("there was one alone", x.stop(), false);
        x.begin(1, 2);
        due("stop after FULL", givenNext(x, 1, FULL).stop(), true);
        due("next after stop", x.next(9), NONE);
        x.begin(1, 1);
        due("stop behind the last one", givenNext(x, 9, 2).stop(), true);
        x.begin(3, 3);
        due("stop after the end", givenNext(x, 9, NONE).stop(), false);
    }

    // Promise 7

    private static void nextWaitsForRoom() {
        PacketStore x = new PacketStore(1024);
        keepBytes(x, 300, 0, 9);
        keepBytes(x, 1, 10, 1);
        keepBytes(x, 512, 20, 2);
        keepBytes(x, 5, 30, 3);
        x.begin(1, 3);
        due("a byte in 0 (and 300 of another time)", x.next(0), FULL);
        due("a byte in -1", x.next(-1), FULL);
        due("a byte in MIN", x.next(MIN), FULL);
        due("a byte in 1", x.next(1), 1);
        String before = Packets.seen(x);
        due("512 in 511", x.next(511), FULL);
        due("512 in 5, though the one behind has 5", x.next(5), FULL);
        due("512 in -512", x.next(-512), FULL);
        due("the store after FULL", Packets.seen(x), before);
        keepBytes(x, 4, 40, 2);
        due("512 in 4, when one of 4 has come", x.next(4), FULL);
        due("512 in 512", x.next(512), 512);
        due("5 in MAX", x.next(MAX), 5);
        due("4 in 4", x.next(4), 4);
        due("the last byte", x.out(3), 43);
    }

    private static void nextEndsWhenThereIsNone() {
        PacketStore x = new PacketStore(64);
        due("next in a new store", x.next(MAX), NONE);
        x.begin(MIN, MAX);
        endsAt(x, "in an empty store", MAX);
        keepTimes(x, 5, 6);
        due("next when later ones have come", x.next(9), NONE);
        x.begin(7, 9);
        endsAt(x, "above all times", 9);
        x.begin(0, 4);
        endsAt(x, "below all times", 9);
        x.begin(6, 5);
        endsAt(x, "from above to", 9);
        x.begin(5, 6);
        due("next after FULL", givenNext(x, 0, FULL).next(9), 2);
        due("the last one", x.next(9), 2);
        due("under way behind the last one", x.count(5), 1);
        endsAt(x, "behind the last one, with no room", MIN);
        due("what came out last", x.out(0), 6);
        x.begin(5, 6);
        x.stop();
        due("next after stop", x.next(9), NONE);
        x.begin(5, 6);
        x.delete(6);
        endsAt(x, "when all are gone", 9);
    }

    private static void endsAt(PacketStore x, String when, int most) {
        due("next " + when, x.next(most), NONE);
        due("under way " + when, x.count(5), 0);
        due("next again " + when, x.next(most), NONE);
        due("stop " + when, x.stop(), false);
    }

    // Promise 8

    private static void outHasItsEnds() {
        PacketStore x = new PacketStore(64);
        keepBytes(x, 50, 0, 0);
        keepBytes(x, 30, 250, 1);
        keepBytes(x, 1, 128, 2);
        x.begin(1, 2);
        outIs(x, "before next", 0, 0);
        givenNext(x, 29, FULL);
        outIs(x, "after FULL", 0, 0);
        givenNext(x, 30, 30);
        outIs(x, "one that wraps round", 250, 30);
        givenNext(x, 0, FULL);
        outIs(x, "after FULL for the second", 250, 30);
        givenNext(x, 1, 1);
        outIs(x, "a shorter one", 128, 1);
        givenNext(x, 64, NONE);
        outIs(x, "after the end", 128, 1);
        x.delete(2);
        keepBytes(x, 64, 1, 3);
        x.put(7);
        outIs(x, "when its bytes are another's", 128, 1);
        x.begin(4, 4);
        outIs(x, "after another begin", 128, 1);
        x.stop();
        outIs(x, "after stop", 128, 1);

        PacketStore y = new PacketStore(512);
        keepBytes(y, 512, 3, 1);
        y.begin(1, 1);
        givenNext(y, 512, 512);
        outIs(y, "the largest", 3, 512);
    }

    private static void outIs(PacketStore x, String when, int first, int size) {
        due("count(6) " + when, x.count(6), size);
        for (int j = 0; j < size; j++) {
            due("out(" + j + ") " + when, x.out(j), first + j & 0xff);
        }
        int[] none = {MIN, -512, -1, size, size + 1, 512, 513, MAX};
        for (int j : none) {
            due("out(" + j + ") " + when, x.out(j), NONE);
        }
    }

    // Promise 9

    private static void countKnowsNoOtherWhat() {
        PacketStore x = new PacketStore(64);
        countIs(x, "new", 0, 0, 0, 0, 0, 0, 0, 64);
        fill(x, 64);
        keepBytes(x, 2, 0, 2);
        keepBytes(x, 3, 0, 3);
        x.delete(2);
        x.begin(3, 3);
        x.next(3);
        countIs(x, "in use", 1, 3, 3, 1, 1, 1, 3, 64);
    }

    private static void countIs(PacketStore x, String when, int... want) {
        for (int what = 0; what < want.length; what++) {
            due("count(" + what + ") " + when, x.count(what), want[what]);
        }
        int[] others = {MIN, MIN + 7, -8, -7, -1, 8, 9, 10, 16, 256, 65536, MAX};
        for (int what : others) {
            due("count(" + what + ") " + when, x.count(what), NONE);
        }
    }

    // Promise 10

    private static void aboutHasItsEnds() {
        PacketStore x = new PacketStore(64);
        noPacketAt(x, "in a new store", MIN, -1, 0, 1, 63, 64, MAX);
        keepBytes(x, 40, 0, 8);
        keepBytes(x, 24, 0, 9);
        packetIs(x, "the oldest", 0, 8, 40);
        packetIs(x, "the newest", 1, 9, 24);
        noPacketAt(x, "with two", MIN, -64, -1, 2, 3, 63, 64, 65, MAX);
        keepBytes(x, 64, 0, 10);
        packetIs(x, "the whole room", 0, 10, 64);
        noPacketAt(x, "when the others are driven out", -1, 1, 2);
        x.put(1);
        noPacketAt(x, "with a text", 1);
        x.delete(10);
        noPacketAt(x, "when all are deleted", -1, 0, 1);
    }

    private static void packetIs(PacketStore x, String which, int k, int time, int size) {
        due("time of " + which, x.about(k, 0), time);
        due("size of " + which, x.about(k, 1), size);
        int[] others = {MIN, -1, 2, 3, 256, MAX};
        for (int what : others) {
            due("what " + what + " of " + which, x.about(k, what), NONE);
        }
    }

    private static void noPacketAt(PacketStore x, String when, int... places) {
        for (int k : places) {
            for (int what = -1; what <= 2; what++) {
                due("about(" + k + ", " + what + ") " + when, x.about(k, what), NONE);
            }
        }
    }

    // Promise 11

    private static void byteAtHasItsEnds() {
        PacketStore x = new PacketStore(64);
        noByteOf(x, "in a new store", 0, -1, 0, 1);
        keepBytes(x, 50, 0, 1);
        keepBytes(x, 30, 240, 2);
        keepBytes(x, 1, 255, 3);
        packetsAre(x, "one that wraps round", 2, 240, 30, 3, 255, 1);
        noByteOf(x, "of the first", 0, MIN, -1, 30, 31, 64, MAX);
        noByteOf(x, "of the last", 1, MIN, -64, -1, 1, 2, 63, MAX);
        int[] noPacket = {MIN, -1, 2, 3, 64, MAX};
        for (int k : noPacket) {
            noByteOf(x, "of no packet", k, MIN, -1, 0, 1, MAX);
        }
        x.put(9);
        noByteOf(x, "of the text", 2, 0);
        x.delete(3);
        noByteOf(x, "of a deleted one", 0, 0);

        PacketStore y = new PacketStore(512);
        keepBytes(y, 512, 7, 1);
        packetsAre(y, "the largest", 1, 7, 512);
        noByteOf(y, "of the largest", 0, -1, 512, 513, MAX);
    }

    private static void noByteOf(PacketStore x, String when, int k, int... places) {
        for (int j : places) {
            due("byteAt(" + k + ", " + j + ") " + when, x.byteAt(k, j), NONE);
        }
    }

    // Terms

    private static void packetHas1To512BytesAndAnyTime() {
        int[] sizes = {1, 2, 511, 512};
        int[] times = {MIN, MIN + 1, -2, -1, 0, 1, MAX - 1, MAX};
        for (int size : sizes) {
            for (int time : times) {
                PacketStore x = new PacketStore(1024);
                String told = size + " bytes of time " + time;
                due("keep of " + told, keepBytes(x, size, time, time), 0);
                packetsAre(x, told, time, time, size);
                x.begin(time, time);
                due("next, " + told, x.next(size), size);
                due("delete, " + told, x.delete(time), 1);
            }
        }
        PacketStore x = new PacketStore(1024);
        due("a packet of no bytes", x.keep(1), NONE);
        due("a packet of 513 puts", keepBytes(x, 513, 0, 1), 0);
        packetsAre(x, "a packet of 513 puts", 1, 0, 512);
    }

    private static void packetsFillTheRoomInOrder() {
        PacketStore x = new PacketStore(64);
        for (int n = 0; n < 64; n++) {
            due("byte " + n + " of 64", keepBytes(x, 1, n, 100 - n), 0);
        }
        // More than twice round, so that each place of the ring was the oldest one's once.
        for (int n = 64; n < 200; n++) {
            due("byte " + n, keepBytes(x, 1, n, 100 - n), 1);
            int oldest = n - 63;
            due("the oldest at " + n, x.about(0, 0), 100 - oldest);
            due("its byte at " + n, x.byteAt(0, 0), oldest);
            due("the newest at " + n, x.about(63, 0), 100 - n);
            due("its byte at " + n, x.byteAt(63, 0), n);
            due("bytes at " + n, x.count(1), 64);
        }
        // Sizes that end before, at and behind the ring's end.
        for (int size = 1; size <= 64; size++) {
            sameSizeInOrder(size);
        }
    }

    private static void sameSizeInOrder(int size) {
        PacketStore x = new PacketStore(64);
        int fitting = 64 / size;
        for (int n = 0; n < 3 * fitting + 3; n++) {
            due("keep " + n + " of " + size, keepBytes(x, size, n, n), n < fitting ? 0 : 1);
            int there = Math.min(n + 1, fitting);
            int[] told = new int[3 * there];
            for (int k = 0; k < there; k++) {
                int number = n + 1 - there + k;
                told[3 * k] = number;
                told[3 * k + 1] = number;
                told[3 * k + 2] = size;
            }
            packetsAre(x, "after " + n + " of " + size, told);
        }
    }

    private static void retrievalLooksAtEachOnce() {
        looksAtOldAndNewOnesInOrder();
        missesWhatIsGone();
        keepsItsPlaceWhenPassedOnesGo();
        goesOnRoundTheRing();
    }

    private static void looksAtOldAndNewOnesInOrder() {
        PacketStore x = new PacketStore(64);
        keepBytes(x, 1, 0, 9);
        keepBytes(x, 2, 0, 5);
        keepBytes(x, 3, 0, 4);
        x.begin(5, 9);
        keepBytes(x, 4, 0, 5);
        due("there when it began", x.next(9), 1);
        due("there when it began, of the first time", x.next(9), 2);
        due("came later, behind one of another time", x.next(9), 4);
        keepBytes(x, 5, 0, 10);
        keepBytes(x, 6, 0, 9);
        due("came behind the last one", x.next(9), 6);
        keepBytes(x, 7, 0, 4);
        due("each once, and the last is of another time", x.next(9), NONE);
        x.begin(5, 9);
        due("another one looks at all again", x.next(9), 1);
    }

    private static void missesWhatIsGone() {
        PacketStore x = new PacketStore(64);
        keepBytes(x, 20, 0, 1);
        keepBytes(x, 21, 0, 2);
        keepBytes(x, 22, 0, 3);
        x.begin(1, 9);
        due("the first is driven out", keepBytes(x, 2, 0, 4), 1);
        due("FULL for the second", x.next(20), FULL);
        due("the second is deleted", x.delete(2), 1);
        due("the third is the next", x.next(64), 22);
        due("all are driven out", keepBytes(x, 64, 0, 5), 2);
        due("the one for which they went", x.next(64), 64);
        x.delete(9);
        keepBytes(x, 3, 0, 6);
        x.delete(9);
        keepBytes(x, 4, 0, 7);
        due("the one that is left", x.next(64), 4);
        x.delete(9);
        due("none is left", x.next(64), NONE);
    }

    private static void keepsItsPlaceWhenPassedOnesGo() {
        PacketStore x = new PacketStore(64);
        for (int size = 1; size <= 8; size++) {
            keepBytes(x, size, 0, size);
        }
        x.begin(3, 9);
        due("the third", x.next(9), 3);
        due("one passed by is deleted", x.delete(1), 1);
        due("the fourth", x.next(9), 4);
        due("two passed by are driven out", keepBytes(x, 34, 0, 9), 2);
        due("the fifth", x.next(9), 5);
        due("all passed by and the sixth are gone", x.delete(6), 3);
        due("the seventh", x.next(9), 7);
        due("the eighth", x.next(9), 8);
        due("the one that came", x.next(64), 34);
        due("none", x.next(64), NONE);
    }

    // The reader stays one behind the writer while both go round the ring several times.
    private static void goesOnRoundTheRing() {
        PacketStore x = new PacketStore(64);
        x.begin(0, 99);
        keepBytes(x, 9, 0, 0);
        for (int n = 1; n < 60; n++) {
            keepBytes(x, 9, n, n);
            due("next " + n, x.next(9), 9);
            due("first byte " + n, x.out(0), n - 1);
            due("last byte " + n, x.out(8), n + 7);
        }
        due("the last", x.next(9), 9);
        due("none", x.next(9), NONE);
    }

    /** Keeps a packet of two bytes for each time; its first byte is the time's lowest. */
    private static void keepTimes(PacketStore x, int... times) {
        for (int time : times) {
            keepBytes(x, 2, time, time);
        }
    }

    /** Keeps so many bytes, in packets as large as may be: how many packets were gone for them. */
    private static int fill(PacketStore x, int bytes) {
        int gone = 0;
        for (int left = bytes; left > 0; left -= 512) {
            gone += keepBytes(x, Math.min(left, 512), left, 1);
        }
        return gone;
    }

    /** The store after a next, whose answer must be this one for the test to mean what it says. */
    private static PacketStore givenNext(PacketStore x, int most, int answer) {
        due("next(" + most + ") on the way", x.next(most), answer);
        return x;
    }

    private static int keepBytes(PacketStore x, int size, int first, int time) {
        return Packets.keepBytes(x, size, first, time);
    }

    private static void packetsAre(PacketStore x, String when, int... told) {
        checks.packetsAre(x, underTest + ": " + when, told);
    }

    private static void due(String call, Object got, Object want) {
        checks.due(underTest + ": " + call, got, want);
    }

    private static void sentence(String promise, String words, Runnable test) {
        underTest = promise + ", \"" + words + "\"";
        int before = checks.made();
        test.run();
        due("whether anything was looked at", checks.made() > before, true);
    }
}
