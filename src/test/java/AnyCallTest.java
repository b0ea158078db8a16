import java.lang.reflect.Method;
import java.util.function.Supplier;

/** Rule 7 of LANGUAGE.md: any call, with any arguments, in any state, answers or throws what the document says. */
public final class AnyCallTest {
    private static final int MIN = Integer.MIN_VALUE;
    private static final int MAX = Integer.MAX_VALUE;

    /** For calls of up to two arguments, of four, and of five: every row of them is tried. */
    private static final int[] MANY = {MIN, MIN + 1, -65536, -513, -33, -32, -31, -9, -2, -1, 0, 1, 2, 3, 4, 5, 6, 7, 8,
        9, 10, 11, 13, 14, 15, 16, 19, 28, 31, 32, 33, 63, 64, 84, 255, 448, 500, 511, 512, 515, 520, 521, 539, 540,
        541, 7 << 29, 1 << 30, MAX - 1, MAX};
    private static final int[] SOME = {MIN, -1, 0, 1, 2, 4, 8, 9, 13, 14, 32, MAX};
    private static final int[] FEW = {MIN, -1, 0, 0x6a756467, 0x3b3b3b3b};

    public static void main(String[] args) {
        everyCall("a new object", BenchComposer::new);
        everyCall("an empty TEXT", () -> Courts.of(""));
        everyCall("a FAULT", AnyCallTest::faulty);
        everyCall("a court alone", () -> Courts.like(0, 0));
        everyCall("cases without judges", () -> Courts.like(0, 14));
        everyCall("judges without cases", () -> Courts.like(9, 0));
        everyCall("two judges", () -> Courts.like(2, 2));
        everyCall("none is drawn", () -> Courts.like(9, 14));
        everyCall("three are drawn", () -> Courts.threeDrawn(20));
        everyCall("all are drawn", () -> drawn(9, 14));
        everyCall("all of three judges are drawn", () -> drawn(3, 14));
        everyCall("all are HEARD", AnyCallTest::heard);
        everyCall("all are AWAY", AnyCallTest::deserted);
        everyCall("a full tape", AnyCallTest::fullTape);
        Check.close("AnyCallTest");
    }

    private static BenchComposer faulty() {
        BenchComposer x = new BenchComposer();
        Check.due("text()", Check.tell(x, Courts.COURT + "judge 1;case 1 not 1;"), -36);
        return x;
    }

    private static BenchComposer drawn(int judges, int cases) {
        BenchComposer x = Courts.like(judges, cases);
        Check.due("drawAll()", x.drawAll(), cases);
        return x;
    }

    private static BenchComposer heard() {
        BenchComposer x = drawn(9, 14);
        for (int one = 0; one < 14; one++) {
            Check.due("hear(" + one + ")", x.hear(one), one + 1);
        }
        return x;
    }

    private static BenchComposer deserted() {
        BenchComposer x = drawn(9, 14);
        for (int judge = 0; judge < 9; judge++) {
            x.leave(judge);
        }
        Check.due("none is SET", x.now(3), 0);
        return x;
    }

    private static BenchComposer fullTape() {
        BenchComposer x = drawn(5, 5);
        for (int i = 0; i < 27; i++) {
            x.feed(-1, MIN, MAX, 0x3b3b3b3b, 0x61616161);
        }
        Check.due("bytes of the tape", x.now(6), 540);
        return x;
    }

    /** Each call begins with the state anew, and goes on with what its own rows make of it. */
    private static void everyCall(String state, Supplier<BenchComposer> made) {
        Check.by(state);
        for (Method method : Calls.ALL) {
            int count = method.getParameterCount();
            int[] values = count <= 2 ? MANY : count <= 4 ? SOME : FEW;
            BenchComposer x = made.get();
            int rows = 1;
            for (int i = 0; i < count; i++) {
                rows *= values.length;
            }
            for (int row = 0; row < rows; row++) {
                Object[] given = new Object[count];
                int left = row;
                for (int i = 0; i < count; i++) {
                    given[i] = values[left % values.length];
                    left /= values.length;
                }
                Check.due(Calls.told(method, given) + " answers", Calls.isAnswered(x, method, given), true);
            }
            Check.due("text() behind " + method.getName(), Calls.isAnswered(x, Calls.named("text")), true);
        }
    }
}
