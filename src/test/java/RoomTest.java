import java.lang.management.ManagementFactory;

/** All calls of a run live in one room: a call makes no objects, and an object is small when it is made. */
public final class RoomTest {
    private static final com.sun.management.ThreadMXBean ROOM =
            (com.sun.management.ThreadMXBean) ManagementFactory.getThreadMXBean();
    private static final byte[] TEXT = Check.bytes("court 4711 5 3 2 4;judge 40;judge 25;judge 61;judge 25;judge 70;"
            + "judge 12;judge 33;judge 58;judge 9;senior 55;case 9;case 3 not 2 4;case 5;case 5 not 7;case 1;case 8;"
            + "case 4;case 7 not 4 7;case 2;case 6 not 2;case 5;case 3;case 9 not 8;case 4;");

    public static void main(String[] args) {
        calls(new BenchComposer());
        long before = ROOM.getCurrentThreadAllocatedBytes();
        BenchComposer x = new BenchComposer();
        long made = ROOM.getCurrentThreadAllocatedBytes();
        calls(x);
        long behind = ROOM.getCurrentThreadAllocatedBytes();
        Check.due("bytes of an object below 16,000: " + (made - before), made - before < 16000, true);
        Check.due("bytes of all calls below 1,000: " + (behind - made), behind - made < 1000, true);
        Check.close("RoomTest");
    }

    private static void calls(BenchComposer x) {
        for (int round = 0; round < 5; round++) {
            for (int i = 0; i < TEXT.length; i += 20) {
                x.feed(Check.word(TEXT, i), Check.word(TEXT, i + 4), Check.word(TEXT, i + 8),
                        Check.word(TEXT, i + 12), Check.word(TEXT, i + 16));
            }
            x.end(TEXT.length);
            x.text();
            x.drawAll();
            for (int one = 0; one < 14; one++) {
                x.pool(one);
                x.worst(one);
                x.recuse(one, one % 9);
                x.anew(one);
            }
            x.leave(round);
            x.smooth();
            x.better(0);
            x.come(round);
            x.hear(round);
            x.spread(0);
            x.same();
            x.undo();
        }
    }
}
