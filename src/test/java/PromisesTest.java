/**
 * Each promise of the document by hand, in use; BoundaryTest has the cases that its sentences name as
 * too small, too large, empty, full or refused.
 */
public final class PromisesTest {
    private static final int NONE = -1;
    private static final int FULL = -2;
    private static final int MIN = Integer.MIN_VALUE;
    private static final int MAX = Integer.MAX_VALUE;

    private static final Checks checks = new Checks();

    private PromisesTest() {
    }

    public static void main(String[] args) {
        newObjectIsEmpty();
        objectsShareNothing();
        putTakesTheLowestEightBits();
        keepAnswersHowManyAreGone();
        keepWrapsRoundTheRing();
        keepFillsTheLargestRoom();
        deleteEndsAtTheFirstLaterTime();
        beginRefusesASecondRetrieval();
        beginStartsAtTheOldestAgain();
        stopEndsTheRetrieval();
        nextBringsOutTheSpanInOrder();
        nextComparesTimesAsInts();
        nextMissesWhatIsGone();
        nextSeesWhatComesLater();
        nextEndsTheRetrieval();
        nextLosesNoPlaceWhenPassedOnesGo();
        outIsOfWhatCameOutLast();
        outOutlivesItsPacket();
        countTellsEachNumber();
        aboutTellsTimeAndSize();
        byteAtTellsEachByte();
        checks.endWithVerdict("PromisesTest");
    }

    // Promise 1

    private static void newObjectIsEmpty() {
        PacketStore x = new PacketStore(64);
        for (int what = 0; what <= 6; what++) {
            due("new: count(" + what + ")", x.count(what), 0);
        }
        due("new: out(0)", x.out(0), NONE);
        due("new: about(0, 0)", x.about(0, 0), NONE);
        due("new: byteAt(0, 0)", x.byteAt(0, 0), NONE);
        due("new: next", x.next(MAX), NONE);
        due("new: delete", x.delete(MAX), 0);
        due("new: stop", x.stop(), false);
        due("new: keep", x.keep(1), NONE);
        due("new: first put", x.put(1), 1);
    }

    private static void objectsShareNothing() {
        PacketStore x = new PacketStore(64);
        PacketStore y = new PacketStore(64);
        keepBytes(x, 3, 10, 1);
        x.begin(0, 9);
        x.next(9);
        x.put(1);
        due("other object: count(0)", y.count(0), 0);
        due("other object: count(5)", y.count(5), 0);
        due("other object: count(6)", y.count(6), 0);
        due("other object: put", y.put(1), 1);
    }

    // Promise 2

    private static void putTakesTheLowestEightBits() {
        int[] given = {0, 127, 128, 255, 256, -1, -256, 0x1234, MIN, MAX};
        int[] bytes = {0, 127, 128, 255, 0, 255, 0, 0x34, 0, 255};
        PacketStore x = new PacketStore(64);
        for (int j = 0; j < given.length; j++) {
            due("put(" + given[j] + ")", x.put(given[j]), j + 1);
        }
        x.keep(1);
        x.begin(1, 1);
        x.next(64);
        for (int j = 0; j < given.length; j++) {
            due("byteAt of put(" + given[j] + ")", x.byteAt(0, j), bytes[j]);
            due("out of put(" + given[j] + ")", x.out(j), bytes[j]);
        }
        due("put after keep", x.put(1), 1);
    }

    // Promise 3

    private static void keepAnswersHowManyAreGone() {
        PacketStore x = new PacketStore(64);
        due("keep of 10", keepBytes(x, 10, 0, 1), 0);
        due("keep of 20", keepBytes(x, 20, 50, 2), 0);
        due("keep of 34, just full", keepBytes(x, 34, 100, 3), 0);
        due("bytes when full", x.count(1), 64);
        due("keep of 1 drives out one", keepBytes(x, 1, 150, 4), 1);
        due("bytes then", x.count(1), 55);
        due("keep of 9 fits again", keepBytes(x, 9, 160, 5), 0);
        due("keep of 21 drives out two", keepBytes(x, 21, 200, 6), 2);
        packetsAre(x, "after driving out", 4, 150, 1, 5, 160, 9, 6, 200, 21);
        due("keep of the whole room", keepBytes(x, 64, 0, 7), 3);
        due("packets then", x.count(0), 1);
        due("driven out in all", x.count(3), 6);
        due("come in all", x.count(2), 7);
    }

    private static void keepWrapsRoundTheRing() {
        PacketStore x = new PacketStore(64);
        for (int n = 0; n < 12; n++) {
            int gone = keepBytes(x, 30, 7 * n, n);
            due("keep " + n + " of 30", gone, n < 2 ? 0 : 1);
            if (n > 0) {
                packetsAre(x, "wrap " + n, n - 1, 7 * (n - 1), 30, n, 7 * n, 30);
            }
        }
    }

    // 16,384 packets of one byte are the most that any room takes (far beyond 512 calls).
    private static void keepFillsTheLargestRoom() {
        PacketStore x = new PacketStore(16384);
        for (int n = 0; n < 16384; n++) {
            x.put(n);
            x.keep(n);
        }
        due("packets of one byte", x.count(0), 16384);
        due("driven out by them", x.count(3), 0);
        due("the last of them", x.byteAt(16383, 0), 255);
        due("two bytes more", keepBytes(x, 2, 9, -5), 2);
        due("the oldest then", x.about(0, 0), 2);
        due("the newest then", x.about(16382, 0), -5);
        due("its second byte", x.byteAt(16382, 1), 10);
        due("none behind it", x.about(16383, 0), NONE);
    }

    // Promise 4

    private static void deleteEndsAtTheFirstLaterTime() {
        PacketStore x = new PacketStore(64);
        int[] times = {3, 5, 4, 9, 1};
        for (int time : times) {
            keepBytes(x, 2, time, time);
        }
        due("delete(2)", x.delete(2), 0);
        due("delete(4): 5 stands before 4", x.delete(4), 1);
        packetsAre(x, "after delete(4)", 5, 5, 2, 4, 4, 2, 9, 9, 2, 1, 1, 2);
        due("delete(8)", x.delete(8), 2);
        due("delete(8) again", x.delete(8), 0);
        due("bytes left", x.count(1), 4);
        due("delete(9)", x.delete(9), 2);
        due("delete of nothing", x.delete(9), 0);
        due("deleted in all", x.count(4), 5);
        due("driven out", x.count(3), 0);
        due("come in all", x.count(2), 5);
        due("packets left", x.count(0), 0);
        due("bytes left at last", x.count(1), 0);
        due("room is there again", keepBytes(x, 64, 0, 1), 0);
    }

    // Promise 5

    private static void beginRefusesASecondRetrieval() {
        PacketStore x = new PacketStore(64);
        keepBytes(x, 1, 0, 1);
        keepBytes(x, 2, 0, 2);
        keepBytes(x, 3, 0, 1);
        due("begin", x.begin(1, 1), true);
        due("first", x.next(9), 1);
        due("begin while under way", x.begin(2, 2), false);
        due("under way", x.count(5), 1);
        due("span and place are the first one's", x.next(9), 3);
        due("end", x.next(9), NONE);
        due("begin after the end", x.begin(2, 2), true);
        due("span of the second", x.next(9), 2);
    }

    private static void beginStartsAtTheOldestAgain() {
        PacketStore x = new PacketStore(64);
        keepBytes(x, 1, 0, 1);
        keepBytes(x, 2, 0, 2);
        x.begin(1, 2);
        x.next(9);
        x.next(9);
        x.stop();
        due("begin anew", x.begin(1, 2), true);
        due("the oldest again", x.next(9), 1);
        due("the second again", x.next(9), 2);
        PacketStore empty = new PacketStore(64);
        due("begin in an empty store", empty.begin(MIN, MAX), true);
        due("begin with no span", new PacketStore(64).begin(MAX, MIN), true);
    }

    // Promise 6

    private static void stopEndsTheRetrieval() {
        PacketStore x = new PacketStore(64);
        keepBytes(x, 1, 40, 1);
        keepBytes(x, 2, 50, 2);
        due("stop before any", x.stop(), false);
        x.begin(1, 2);
        x.next(9);
        due("stop", x.stop(), true);
        due("under way after stop", x.count(5), 0);
        due("next after stop", x.next(9), NONE);
        due("stop again", x.stop(), false);
        due("out after stop", x.out(0), 40);
        due("packets after stop", x.count(0), 2);
        due("begin after stop", x.begin(2, 2), true);
        due("next after begin", x.next(9), 2);
    }

    // Promise 7

    private static void nextBringsOutTheSpanInOrder() {
        PacketStore x = new PacketStore(64);
        int[] times = {4, 5, 9, 7, 10, 2, 8, 5};
        for (int n = 0; n < times.length; n++) {
            keepBytes(x, n + 1, 10 * n, times[n]);
        }
        x.begin(5, 8);
        due("next: time 5", x.next(9), 2);
        due("its byte", x.out(1), 11);
        due("next: time 7", x.next(9), 4);
        due("next: time 8", x.next(9), 7);
        due("next: time 5 again", x.next(9), 8);
        due("its byte", x.out(7), 77);
        due("next: none", x.next(9), NONE);
        due("the packets stay", x.count(0), 8);
        due("their bytes stay", x.count(1), 36);
    }

    private static void nextComparesTimesAsInts() {
        PacketStore x = new PacketStore(64);
        keepBytes(x, 1, 0, MIN);
        keepBytes(x, 2, 0, -1);
        keepBytes(x, 3, 0, MAX);
        x.begin(MIN, MAX);
        due("all: MIN", x.next(9), 1);
        due("all: -1", x.next(9), 2);
        due("all: MAX", x.next(9), 3);
        x.stop();
        x.begin(MIN + 1, MAX - 1);
        due("inner: -1", x.next(9), 2);
        due("inner: none", x.next(9), NONE);
        x.begin(MAX, MAX);
        due("MAX alone", x.next(9), 3);
        due("then none", x.next(9), NONE);
        x.begin(MAX, MIN);
        due("from above to", x.next(9), NONE);
    }

    private static void nextMissesWhatIsGone() {
        PacketStore x = new PacketStore(64);
        keepBytes(x, 20, 0, 1);
        keepBytes(x, 21, 0, 2);
        keepBytes(x, 22, 0, 3);
        x.begin(1, 9);
        due("too long for 5", x.next(5), FULL);
        due("it is driven out", keepBytes(x, 10, 0, 4), 1);
        due("the next is the second", x.next(64), 21);
        due("the third is deleted too", x.delete(3), 2);
        due("the next is the fourth", x.next(64), 10);
        due("then none", x.next(64), NONE);
        x.begin(1, 9);
        x.delete(9);
        due("all gone", x.next(64), NONE);
        due("and it is over", x.count(5), 0);
    }

    private static void nextSeesWhatComesLater() {
        PacketStore x = new PacketStore(64);
        x.begin(5, 9);
        keepBytes(x, 1, 0, 4);
        keepBytes(x, 2, 0, 5);
        due("came after begin", x.next(9), 2);
        keepBytes(x, 3, 0, 10);
        keepBytes(x, 4, 0, 9);
        due("came after the last one", x.next(9), 4);
        x.delete(MAX);
        keepBytes(x, 5, 0, 6);
        due("came when all were gone", x.next(9), 5);
        due("each once", x.next(9), NONE);
    }

    private static void nextEndsTheRetrieval() {
        PacketStore x = new PacketStore(64);
        keepBytes(x, 1, 7, 1);
        x.begin(1, 9);
        x.next(9);
        due("under way behind the last", x.count(5), 1);
        due("none", x.next(9), NONE);
        due("over", x.count(5), 0);
        due("what came out last stays", x.out(0), 7);
        keepBytes(x, 2, 0, 2);
        due("later ones are not its own", x.next(9), NONE);
        due("stop after the end", x.stop(), false);
    }

    private static void nextLosesNoPlaceWhenPassedOnesGo() {
        PacketStore x = new PacketStore(64);
        for (int n = 1; n <= 6; n++) {
            keepBytes(x, n, 0, n);
        }
        x.begin(3, 6);
        due("the third", x.next(9), 3);
        due("two of the passed ones are deleted", x.delete(2), 2);
        due("the fourth", x.next(9), 4);
        due("passed ones are driven out", keepBytes(x, 53, 0, 3), 2);
        due("the fifth", x.next(9), 5);
        due("the sixth", x.next(9), 6);
        due("the new one", x.next(64), 53);
        due("none", x.next(64), NONE);
    }

    // Promise 8

    private static void outIsOfWhatCameOutLast() {
        PacketStore x = new PacketStore(64);
        keepBytes(x, 3, 200, 1);
        keepBytes(x, 2, 255, 2);
        x.begin(1, 2);
        due("before next", x.out(0), NONE);
        x.next(9);
        due("out(-1)", x.out(-1), NONE);
        due("out(0)", x.out(0), 200);
        due("out(2)", x.out(2), 202);
        due("out(3)", x.out(3), NONE);
        due("out(MIN)", x.out(MIN), NONE);
        due("out(MAX)", x.out(MAX), NONE);
        x.next(9);
        due("second: out(0)", x.out(0), 255);
        due("second: out(1)", x.out(1), 0);
        due("second: out(2) is not the first's", x.out(2), NONE);
    }

    private static void outOutlivesItsPacket() {
        PacketStore x = new PacketStore(64);
        keepBytes(x, 3, 10, 1);
        x.begin(1, 1);
        x.next(9);
        x.delete(1);
        keepBytes(x, 64, 100, 2);
        due("bytes that came out", x.count(6), 3);
        due("out(0)", x.out(0), 10);
        due("out(2)", x.out(2), 12);
        x.stop();
        x.begin(5, 5);
        x.next(9);
        due("after another retrieval without any", x.out(1), 11);
    }

    // Promise 9

    private static void countTellsEachNumber() {
        PacketStore x = new PacketStore(100);
        keepBytes(x, 40, 0, 1);
        keepBytes(x, 50, 0, 2);
        keepBytes(x, 30, 0, 3);
        keepBytes(x, 7, 0, 4);
        keepBytes(x, 101, 0, 5);
        x.delete(2);
        x.begin(3, 9);
        x.next(30);
        x.put(1);
        int[] want = {2, 37, 4, 1, 1, 1, 30, 100};
        for (int what = 0; what < want.length; what++) {
            due("count(" + what + ")", x.count(what), want[what]);
        }
        int[] others = {-1, 8, 9, 256, MIN, MAX};
        for (int what : others) {
            due("count(" + what + ")", x.count(what), NONE);
        }
        x.stop();
        due("count(5) after stop", x.count(5), 0);
    }

    // Promise 10

    private static void aboutTellsTimeAndSize() {
        PacketStore x = new PacketStore(64);
        keepBytes(x, 3, 0, MIN);
        keepBytes(x, 5, 0, 77);
        due("time of 0", x.about(0, 0), MIN);
        due("size of 0", x.about(0, 1), 3);
        due("time of 1", x.about(1, 0), 77);
        due("size of 1", x.about(1, 1), 5);
        int[] noPacket = {-1, 2, 63, 64, MIN, MAX};
        for (int k : noPacket) {
            due("about(" + k + ", 0)", x.about(k, 0), NONE);
            due("about(" + k + ", 1)", x.about(k, 1), NONE);
        }
        int[] noWhat = {-1, 2, MIN, MAX};
        for (int what : noWhat) {
            due("about(0, " + what + ")", x.about(0, what), NONE);
        }
        x.delete(MIN);
        due("the oldest is 0 again", x.about(0, 0), 77);
        due("none behind it", x.about(1, 0), NONE);
    }

    // Promise 11

    private static void byteAtTellsEachByte() {
        PacketStore x = new PacketStore(64);
        keepBytes(x, 3, 254, 1);
        keepBytes(x, 2, 128, 2);
        due("byteAt(0, 0)", x.byteAt(0, 0), 254);
        due("byteAt(0, 1)", x.byteAt(0, 1), 255);
        due("byteAt(0, 2)", x.byteAt(0, 2), 0);
        due("byteAt(1, 0)", x.byteAt(1, 0), 128);
        due("byteAt(1, 1)", x.byteAt(1, 1), 129);
        int[][] none = {
            {0, 3}, {0, -1}, {0, MAX}, {0, MIN}, {1, 2}, {1, -1}, {2, 0}, {-1, 0}, {MIN, 0},
            {MAX, 0}, {MAX, MAX}, {MIN, MIN}, {64, 0}, {0, 64}};
        for (int[] at : none) {
            due("byteAt(" + at[0] + ", " + at[1] + ")", x.byteAt(at[0], at[1]), NONE);
        }
        x.put(9);
        due("the text is no packet", x.byteAt(2, 0), NONE);
    }

    private static int keepBytes(PacketStore x, int size, int first, int time) {
        return Packets.keepBytes(x, size, first, time);
    }

    private static void packetsAre(PacketStore x, String when, int... told) {
        checks.packetsAre(x, when, told);
    }

    private static void due(String call, Object got, Object want) {
        checks.due(call, got, want);
    }
}
