/** Each promise of the document by answers worked out by hand. */
public final class PromiseTest {
    private static final String COURT = Courts.COURT;
    private static final int MIN = Integer.MIN_VALUE;
    private static final int MAX = Integer.MAX_VALUE;

    private static final int[] OF_FIVE = Courts.OF_FIVE;

    public static void main(String[] args) {
        promise1NewObject();
        promise2Feed();
        promise3End();
        promise4Text();
        promise4LongTexts();
        promise4TakenAway();
        promise4AnotherText();
        promise4Counts();
        promise4Effects();
        promise5Fault();
        promise6Now();
        promise7Judge();
        promise8Of();
        promise9Pair();
        promise10Spread();
        promises11To13Lawful();
        promise14Tension();
        promises15To17Pool();
        promise18Draw();
        promise19DrawAll();
        promise20Recuse();
        promise21Leave();
        promise22Come();
        promise23Hear();
        promise24Evenness();
        promise25Better();
        promise26Exchange();
        promise27Smooth();
        promises28And29Anew();
        promise30Undo();
        Check.close("PromiseTest");
    }

    private static void due(String what, long got, long want) {
        Check.due(what, got, want);
    }

    private static void promise1NewObject() {
        BenchComposer x = new BenchComposer();
        for (int what = 0; what <= 6; what++) {
            due("new: now(" + what + ")", x.now(what), 0);
        }
        due("new: fault()", x.fault(), 0);
        due("new: lawful(0)", x.lawful(0), -1);
        due("new: pair(0, 1)", x.pair(0, 1), -1);
        due("new: evenness()", x.evenness(), 0);
        due("new: same()", x.same(), 0);
        due("new: drawAll()", x.drawAll(), 0);
        due("new: smooth()", x.smooth(), -1);
        due("new: undo()", x.undo(), -1);
        Check.judgeThrows(x, 0, 0);
        Check.ofThrows(x, 0, 0);
        due("new: text()", x.text(), 0);
    }

    private static void promise2Feed() {
        BenchComposer x = new BenchComposer();
        for (int i = 1; i <= 27; i++) {
            due("feed " + i, x.feed(MIN, MAX, -1, 0, i), 20 * i);
        }
        due("feed beyond 540", x.feed(0, 0, 0, 0, 0), -1);
        due("the tape stays", x.now(6), 540);
        Check.due("end(521)", x.end(521), true);
        due("feed to 541", x.feed(0, 0, 0, 0, 0), -1);
        due("the tape stays at 521", x.now(6), 521);
        Check.due("end(520)", x.end(520), true);
        due("feed to 540", x.feed(0, 0, 0, 0, 0), 540);

        BenchComposer order = new BenchComposer();
        // 'cour' 't 12' '34 7' ' 1 2' ' 3; '
        order.feed(0x636f7572, 0x74203132, 0x33342037, 0x20312032, 0x20333b20);
        due("highest byte first", order.text(), 1);
        due("SEED", order.now(2), 1234);
        order.feed(0x20202020, 0x20202020, 0x20202020, 0x20202020, 0x20202020);
        order.end(1);
        order.feed(0x636f7572, 0x74203720, 0x31203120, 0x31203120, 0x3b202020);
        due("behind what the tape has", order.text(), 1);
        due("SEED", order.now(2), 7);
    }

    private static void promise3End() {
        BenchComposer x = new BenchComposer();
        Check.due("end(0) of an empty tape", x.end(0), true);
        Check.due("end(1) of an empty tape", x.end(1), false);
        x.feed(1, 2, 3, 4, 5);
        Check.due("end(21)", x.end(21), false);
        Check.due("end(-1)", x.end(-1), false);
        Check.due("end(MIN)", x.end(MIN), false);
        Check.due("end(MAX)", x.end(MAX), false);
        due("all stays", x.now(6), 20);
        Check.due("end(20)", x.end(20), true);
        Check.due("end(7)", x.end(7), true);
        due("seven are left", x.now(6), 7);
        Check.due("end(8)", x.end(8), false);
    }

    private static void promise4Text() {
        Check.right("", 0);
        Check.right(" \n ", 0);
        Check.right(COURT, 1);
        Check.right("court 9999 20 9 9 9;", 1);
        Check.right("court 0 1 0 0 0;", 1);
        Check.right("court\n0000 0001 00 0009 9\n;\njudge 0099;", 2);
        Check.right(COURT + "judge 1;senior 99;judge 99;case 9 not 1 0;case 1;", 6);

        Check.wrong(";", 0, 1);
        Check.wrong("judge 1;", 0, 1);
        Check.wrong("court", 5, 1);
        Check.wrong("court  ", 7, 1);
        Check.wrong("courts 1 1 1 1 1;", 0, 1);
        Check.wrong("cour 1 1 1 1 1;", 0, 1);
        Check.wrong("courtz 1 1 1 1 1;", 0, 1);
        Check.wrong("dourt 1 1 1 1 1;", 0, 1);
        Check.wrong("court1 1 1 1 1;", 0, 1);
        Check.wrong("court 1z 1 1 1 1;", 6, 1);
        Check.wrong("Court 1 1 1 1 1;", 0, 1);
        Check.wrong("court\t1 1 1 1 1;", 5, 1);
        Check.wrong("court\r1 1 1 1 1;", 5, 1);
        Check.wrong("court \0 1 1 1 1;", 6, 1);
        Check.wrong("court " + (char) 233 + ";", 6, 1);
        Check.wrong("court -1 1 1 1 1;", 6, 1);
        Check.wrong("court 12345 1 1 1 1;", 6, 1);
        Check.wrong("court 00001 1 1 1 1;", 6, 1);
        Check.wrong("court 1a 1 1 1 1;", 6, 1);
        Check.wrong("court a1 1 1 1 1;", 6, 1);
        Check.wrong("court x 1 1 1 1;", 6, 1);
        Check.wrong("court 1 0 1 1 1;", 8, 2);
        Check.wrong("court 1 21 1 1 1;", 8, 2);
        Check.wrong("court 1 1 10 1 1;", 10, 2);
        Check.wrong("court 1 1 1 10 1;", 12, 2);
        Check.wrong("court 1 1 1 1 10;", 14, 2);
        Check.wrong("court 1 1 1 1;", 13, 1);
        Check.wrong("court 1 1 1 1 1 1;", 16, 1);
        Check.wrong("court 1 1 1 1 1", 15, 1);
        Check.wrong("court 1 1 1 1 1 ", 16, 1);
        Check.wrong("court 1 1 1 1 1 judge;", 16, 1);
        Check.wrong(COURT + ";", 16, 1);
        Check.wrong(COURT + COURT, 16, 1);
        Check.wrong(COURT + "not 1;", 16, 1);
        Check.wrong(COURT + "5;", 16, 1);
        Check.wrong(COURT + " jugde 1;", 17, 1);
        Check.wrong(COURT + "fudge 1;", 16, 1);
        Check.wrong(COURT + "base 1;", 16, 1);
        Check.wrong(COURT + "zenior 1;", 16, 1);
        Check.wrong(COURT + "judge 1;case 1 hot 0;", 31, 1);
        Check.wrong(COURT + "judge;", 21, 1);
        Check.wrong(COURT + "judge 0;", 22, 2);
        Check.wrong(COURT + "judge 100;", 22, 2);
        Check.wrong(COURT + "judge 1 2;", 24, 1);
        Check.wrong(COURT + "judge 1", 23, 1);
        Check.wrong(COURT + "senior 0;", 23, 2);
        Check.wrong(COURT + "senior 100;", 23, 2);
        Check.wrong(COURT + "senior not;", 23, 1);
        Check.wrong(COURT + "case 0;", 21, 2);
        Check.wrong(COURT + "case 10;", 21, 2);
        Check.wrong(COURT + "case 1 1;", 23, 1);
        Check.wrong(COURT + "case 1 note;", 23, 1);
        Check.wrong(COURT + "case 1 not;", 26, 1);
        Check.wrong(COURT + "case 1 not not;", 27, 1);
        Check.wrong(COURT + "case 1 not 0;", 27, 4);
        Check.wrong(COURT + "judge 1;case 1 not 1;", 35, 4);
        Check.wrong(COURT + "judge 1;case 1 not 9999;", 35, 4);
        Check.wrong(COURT + "judge 1;case 1 not 0 0;", 37, 4);
        Check.wrong(COURT + "judge 1;case 1 not 0 not;", 37, 1);
        Check.wrong(COURT + "judge 1;case 1 not 0 00001;", 37, 1);
        Check.wrong(COURT + "case 1 not 0;judge 1;", 27, 4);
        Check.wrong(COURT + "judge 0;judge 12345;", 22, 2);
    }

    private static void promise4LongTexts() {
        String blanks = " ".repeat(500 - COURT.length());
        Check.right(COURT + blanks, 1);
        Check.wrong(COURT + blanks + " ", 500, 1);
        Check.wrong(COURT + blanks + " ".repeat(40), 500, 1);
        Check.wrong(COURT + blanks + "judge 0;", 500, 1);
        Check.wrong(" ".repeat(501), 500, 1);
        Check.right(" ".repeat(500), 0);
        // 'judge' from 490 on; its number begins ahead of 500 and is read whole.
        String ahead = COURT + " ".repeat(490 - COURT.length());
        Check.wrong(ahead + "judge    99;", 500, 1);
        Check.wrong(ahead + "judge    999;", 499, 2);
        Check.wrong(ahead + "judge    99999;", 499, 1);
        Check.wrong(ahead + "judge    9x;", 499, 1);
        Check.wrong(ahead + "judge     0;", 500, 1);
        Check.wrong(ahead + "judge     ", 500, 1);
        Check.right(ahead + "judge  99;", 2);
        Check.wrong(ahead + "judge   99;", 500, 1);
        Check.wrong(ahead + "judge", 495, 1);
        Check.wrong("a".repeat(540), 0, 1);
        Check.wrong(" ".repeat(499) + "7".repeat(41), 499, 1);
    }

    /** Bytes that end() took away are not read, though they stood there. */
    private static void promise4TakenAway() {
        BenchComposer x = new BenchComposer();
        Check.bring(x, "court 1 1 1 1 12;");
        x.end(15);
        due("the number ends where the tape does", x.text(), -16);
        due("fault()", x.fault(), 1);
        Check.bring(x, COURT + "judge 5;");
        x.end(16);
        due("one line is left", x.text(), 1);
        due("no judge", x.now(0), 0);
    }

    private static void promise4AnotherText() {
        BenchComposer x = Courts.of(COURT + "senior 50;judge 60;judge 60;judge 60;case 1 not 0;case 2 not 1;");
        due("another TEXT", Check.tell(x, COURT + "judge 1;judge 2;judge 3;case 4;"), 5);
        due("its own SENIORITY asked for", x.lawful(0), 1);
        due("its own BARRED", x.of(0, 1), 0);
        due("its own WEIGHT", x.of(0, 0), 4);
        due("its own SENIORITY", x.judge(2, 0), 3);
        Check.ofThrows(x, 1, 0);
        due("none is senior now", Check.tell(x, COURT + "judge 1;judge 2;judge 3;case 4;senior 4;"), 6);
        due("none is lawful", x.lawful(0), 0);
        due("senior again", Check.tell(x, COURT + "judge 1;judge 2;judge 3;case 4;senior 3;"), 6);
        due("one is lawful", x.lawful(0), 1);
    }

    private static void promise4Counts() {
        String nine = COURT + "judge 5;".repeat(9);
        Check.right(nine, 10);
        Check.wrong(nine + "judge 5;", 88, 3);
        Check.wrong(nine + "judge 0;", 88, 3);
        Check.wrong(nine + "  judge", 90, 3);
        Check.right(nine + "case 1 not 0 1 2 3 4 5 6 7 8;", 11);
        Check.wrong(nine + "case 1 not 0 1 2 3 4 5 6 7 8 0;", 117, 4);
        Check.wrong(nine + "case 1 not 0 1 2 3 4 5 6 7 8 9;", 117, 4);
        String fourteen = COURT + "case 5;".repeat(14);
        Check.right(fourteen, 15);
        Check.wrong(fourteen + "case 5;", 114, 3);
        Check.wrong(fourteen + "case", 114, 3);
        Check.wrong(COURT + "senior 5;senior 5;", 25, 3);
        Check.wrong(COURT + "senior 5;senior 0;", 25, 3);
    }

    private static void promise4Effects() {
        BenchComposer x = Courts.threeDrawn(1);
        x.leave(0);
        int undone = x.now(5);
        int seed = x.now(2);
        due("a FAULT", Check.tell(x, COURT + "judge 7;case 0;"), -30);
        due("judges stay", x.now(0), 5);
        due("cases stay", x.now(1), 4);
        due("SEED stays", x.now(2), seed);
        due("SET stay", x.now(3), 2);
        due("undo stays", x.now(5), undone);
        due("AWAY stays", x.judge(0, 1), 1);
        due("BARRED stays", x.of(1, 1), 3);
        due("anew stays", x.anew(0), 7);

        due("the same TEXT again", Check.tell(x, Courts.fiveJudges(1)), 10);
        due("OPEN", x.now(3), 0);
        due("nobody AWAY", x.judge(0, 1), 0);
        due("SEED as told", x.now(2), 5);
        due("nothing to undo", x.now(5), 0);
        due("undo()", x.undo(), -1);

        due("an empty TEXT", x.text(), 0);
        for (int what = 0; what <= 6; what++) {
            due("empty: now(" + what + ")", x.now(what), 0);
        }
        due("empty: anew(0)", x.anew(0), -1);
        due("empty: lawful(0)", x.lawful(0), -1);
    }

    private static void promise5Fault() {
        BenchComposer x = new BenchComposer();
        due("ahead of any", x.fault(), 0);
        Check.tell(x, COURT + "judge 0;");
        due("kind 2", x.fault(), 2);
        due("kind 2 yet", x.fault(), 2);
        x.feed(0, 0, 0, 0, 0);
        due("kind 2 behind a feed", x.fault(), 2);
        Check.tell(x, "x");
        due("kind 1", x.fault(), 1);
        Check.tell(x, COURT + "senior 1;senior 1;");
        due("kind 3", x.fault(), 3);
        Check.tell(x, COURT + "case 1 not 0;");
        due("kind 4", x.fault(), 4);
        Check.tell(x, COURT);
        due("without one", x.fault(), 0);
    }

    private static void promise6Now() {
        BenchComposer x = Courts.threeDrawn(1);
        x.hear(1);
        x.feed(0, 0, 0, 0, 0);
        int seed = 5;
        for (int i = 0; i < 3; i++) {
            seed = seed * 1103515245 + 12345;
        }
        int[] want = {5, 4, seed, 2, 1, 4, 20};
        for (int what = 0; what < want.length; what++) {
            due("now(" + what + ")", x.now(what), want[what]);
        }
        due("now(7)", x.now(7), -1);
        due("now(-1)", x.now(-1), -1);
        due("now(MIN)", x.now(MIN), -1);
        due("now(MAX)", x.now(MAX), -1);
    }

    private static void promise7Judge() {
        BenchComposer x = Courts.threeDrawn(1);
        x.hear(0);
        x.leave(4);
        // Without case 1, whose bench lost judge 4 and can have none more.
        int[] seniority = {10, 30, 30, 20, 5};
        int[] away = {0, 0, 0, 0, 1};
        int[] load = {6, 23, 15, 9, 0};
        int[] benches = {1, 2, 2, 1, 0};
        int[] leads = {0, 2, 0, 0, 0};
        int[] barred = {2, 1, 0, 1, 2};
        int[][] want = {seniority, away, load, benches, leads, barred};
        for (int what = 0; what < want.length; what++) {
            for (int judge = 0; judge < 5; judge++) {
                due("judge(" + judge + ", " + what + ")", x.judge(judge, what), want[what][judge]);
            }
        }
        int[] strange = {-1, 5, 9, 32, MIN, MAX};
        for (int judge : strange) {
            Check.judgeThrows(x, judge, 0);
            Check.judgeThrows(x, judge, 6);
        }
        Check.judgeThrows(x, 0, 6);
        Check.judgeThrows(x, 0, -1);
        Check.judgeThrows(x, 0, MIN);
    }

    private static void promise8Of() {
        BenchComposer x = Courts.threeDrawn(1);
        x.hear(2);
        int[][] want = {{6, 24, 1, 7, 1}, {2, 3, 1, 28, 2}, {9, 17, 2, 14, 1}, {1, 0, 0, 0, -1}};
        for (int one = 0; one < 4; one++) {
            for (int what = 0; what < 5; what++) {
                due("of(" + one + ", " + what + ")", x.of(one, what), want[one][what]);
            }
        }
        int[] strange = {-1, 4, 14, MIN, MAX};
        for (int one : strange) {
            Check.ofThrows(x, one, 0);
            Check.ofThrows(x, one, 3);
        }
        Check.ofThrows(x, 0, 5);
        Check.ofThrows(x, 0, -1);
        Check.ofThrows(x, 0, MAX);
    }

    private static void promise9Pair() {
        BenchComposer x = Courts.threeDrawn(1);
        x.hear(0);
        int[][] want = {{-1, 1, 1, 0, 0}, {1, -1, 2, 1, 0}, {1, 2, -1, 2, 1}, {0, 1, 2, -1, 1},
            {0, 0, 1, 1, -1}};
        for (int a = 0; a < 5; a++) {
            for (int b = 0; b < 5; b++) {
                due("pair(" + a + ", " + b + ")", x.pair(a, b), want[a][b]);
            }
        }
        due("pair(0, 5)", x.pair(0, 5), -1);
        due("pair(5, 0)", x.pair(5, 0), -1);
        due("pair(-1, 0)", x.pair(-1, 0), -1);
        due("pair(0, MIN)", x.pair(0, MIN), -1);
        due("pair(MAX, 1)", x.pair(MAX, 1), -1);
    }

    private static void promise10Spread() {
        BenchComposer x = Courts.threeDrawn(1);
        due("spread(0)", x.spread(0), 2);
        due("spread(1)", x.spread(1), 21);
        x.leave(4);
        due("spread(1), AWAY or not", x.spread(1), 23);
        due("spread(2)", x.spread(2), -1);
        due("spread(-1)", x.spread(-1), -1);
        // Three judges, one bench: every PAIR is 1.
        BenchComposer three = Courts.of(COURT + "judge 1;judge 2;judge 3;case 4;");
        due("spread(0), nothing drawn", three.spread(0), 0);
        three.draw(0);
        due("spread(0), all pairs alike", three.spread(0), 0);
        due("spread(1), CHAIR", three.spread(1), 1);
        due("one judge", Courts.of(COURT + "judge 1;").spread(0), -1);
        due("one judge", Courts.of(COURT + "judge 1;").spread(1), -1);
        due("two judges", Courts.of(COURT + "judge 1;judge 1;").spread(0), 0);
        due("two judges", Courts.of(COURT + "judge 1;judge 1;").spread(1), 0);
    }

    private static void promises11To13Lawful() {
        BenchComposer x = Courts.of(COURT
                + "judge 10;judge 40;senior 30;judge 30;judge 20;judge 29;case 1;case 2 not 1;case 3 not 1 2;");
        // Seniors: 1 and 2; 0 3 4 alone is not lawful.
        dueBenches(x, 0, 7, 11, 19, 13, 21, 14, 22, 26, 28);
        dueBenches(x, 1, 13, 21, 28);
        dueBenches(x, 2);
        x.leave(2);
        dueBenches(x, 0, 11, 19, 26);
        dueBenches(x, 1);
        x.come(2);
        due("draw(1)", x.draw(1) > 0 ? 1 : 0, 1);
        dueBenches(x, 1, 13, 21, 28);
        due("rank of an unlawful one", x.rank(0, 25), -1);
        int[] strange = {0, 3, 15, 31, 32, 35, -1, MIN, MAX, 7 << 5, 7 << 29};
        for (int bench : strange) {
            due("rank(0, " + bench + ")", x.rank(0, bench), -1);
        }
        int[] cases = {-1, 3, 14, MIN, MAX};
        for (int one : cases) {
            due("lawful(" + one + ")", x.lawful(one), -1);
            due("bench(" + one + ", 0)", x.bench(one, 0), -1);
            due("rank(" + one + ", 7)", x.rank(one, 7), -1);
        }
        dueBenches(Courts.like(5, 1), 0, OF_FIVE);
        due("nine judges", Courts.like(9, 1).lawful(0), 84);
        due("the last of nine", Courts.like(9, 1).bench(0, 83), 448);
        due("two judges", Courts.like(2, 1).lawful(0), 0);
    }

    private static void dueBenches(BenchComposer x, int one, int... benches) {
        due("lawful(" + one + ")", x.lawful(one), benches.length);
        for (int i = 0; i < benches.length; i++) {
            due("bench(" + one + ", " + i + ")", x.bench(one, i), benches[i]);
            due("rank(" + one + ", " + benches[i] + ")", x.rank(one, benches[i]), i);
        }
        due("bench behind the last", x.bench(one, benches.length), -1);
        due("bench(" + one + ", -1)", x.bench(one, -1), -1);
        due("bench(" + one + ", MIN)", x.bench(one, MIN), -1);
        due("bench(" + one + ", MAX)", x.bench(one, MAX), -1);
    }

    private static void promise14Tension() {
        BenchComposer x = Courts.threeDrawn(1);
        int[] want = {158, 124, 95, 120, 91, 59, 175, 144, 112, 110};
        for (int i = 0; i < want.length; i++) {
            due("tension(3, " + OF_FIVE[i] + ")", x.tension(3, OF_FIVE[i]), want[i]);
        }
        due("without its own bench", x.tension(2, 14), 76);
        x.hear(2);
        due("without its own bench, HEARD", x.tension(2, 14), 76);
        due("HEARD ones count", x.tension(3, 25), 59);
        // Case 0 bars judges 3 and 4; without it loads are 0 13 15 11 2.
        due("one that is not lawful", x.tension(0, 26), 2 * (1 + 0 + 1) + 3 * (13 + 11 + 2));
        int[] strange = {0, 3, 15, 32, 35, 7 << 3 | 1, -1, MIN, MAX, 7 << 29};
        for (int bench : strange) {
            due("tension(0, " + bench + ")", x.tension(0, bench), -1);
        }
        due("tension(4, 7)", x.tension(4, 7), -1);
        due("tension(-1, 7)", x.tension(-1, 7), -1);
        due("tension(MIN, 7)", x.tension(MIN, 7), -1);
    }

    private static void promises15To17Pool() {
        // Tensions of case 3 from the least on: 59, 91, 95, 110, 112, 120, 124, 144, 158, 175.
        int[] sorted = {59, 91, 95, 110, 112, 120, 124, 144, 158, 175};
        for (int unsure = 1; unsure <= 20; unsure++) {
            BenchComposer x = Courts.threeDrawn(unsure);
            int n = Math.min(unsure, 10);
            due("pool(3), UNSURE " + unsure, x.pool(3), n);
            due("worst(3), UNSURE " + unsure, x.worst(3), sorted[n - 1]);
        }
        BenchComposer x = Courts.threeDrawn(3);
        // 0 3 4, 0 2 4, 0 1 4.
        int[] with = {3, 1, 1, 1, 3};
        for (int judge = 0; judge < 5; judge++) {
            due("chances(3, " + judge + ")", x.chances(3, judge), with[judge]);
        }
        due("a SET case has a pool", x.pool(2), 1);
        due("worst of it", x.worst(2), 76);
        due("chances(3, 5)", x.chances(3, 5), -1);
        due("chances(3, -1)", x.chances(3, -1), -1);
        int[] strange = {-1, 4, MIN, MAX};
        for (int one : strange) {
            due("pool(" + one + ")", x.pool(one), -1);
            due("chances(" + one + ", 0)", x.chances(one, 0), -1);
            due("worst(" + one + ")", x.worst(one), -1);
        }
        // All of one tension come together, though fewer are asked for.
        BenchComposer like = Courts.of("court 1 2 1 1 1;" + "judge 1;".repeat(5) + "case 1;case 1 not 0 1 2;");
        due("all alike", like.pool(0), 10);
        due("worst of them", like.worst(0), 0);
        due("an empty pool", like.pool(1), 0);
        due("nobody in it", like.chances(1, 3), 0);
        due("no worst", like.worst(1), -1);
    }

    private static void promise18Draw() {
        int[] seeds = {0, 1, 7, 4711, 9999};
        for (int told : seeds) {
            BenchComposer x = Courts.of("court " + told + " 20 0 0 0;" + "judge 1;".repeat(5)
                    + "case 3;".repeat(6) + "case 1 not 0 1 2;");
            int seed = told;
            for (int one = 0; one < 6; one++) {
                seed = seed * 1103515245 + 12345;
                due("draw(" + one + ")", x.draw(one), OF_FIVE[(seed >>> 8) % 10]);
                due("SEED", x.now(2), seed);
                due("SET", x.of(one, 2), 1);
                due("drawn again", x.draw(one), -1);
            }
            due("no lawful bench", x.draw(6), -1);
            due("SEED stays", x.now(2), seed);
            due("what can be undone", x.now(5), 6);
            x.hear(0);
            due("HEARD", x.draw(0), -1);
        }
        // In order of benches, not of tension.
        BenchComposer x = Courts.threeDrawn(20);
        int seed = x.now(2) * 1103515245 + 12345;
        due("draw(3)", x.draw(3), OF_FIVE[(seed >>> 8) % 10]);
        due("the least tense one", Courts.threeDrawn(1).draw(3), 25);
        int[] strange = {-1, 4, MIN, MAX};
        for (int one : strange) {
            due("draw(" + one + ")", x.draw(one), -1);
        }
    }

    private static void promise19DrawAll() {
        String text = "court 77 3 2 1 1;judge 9;judge 8;judge 7;judge 6;judge 5;judge 4;senior 8;"
                + "case 3;case 1 not 0 1;case 4;case 5 not 2;";
        BenchComposer all = Courts.of(text);
        BenchComposer each = Courts.of(text);
        due("draw(2)", all.draw(2), each.draw(2));
        due("drawAll()", all.drawAll(), 2);
        int[] rest = {0, 3};
        for (int one : rest) {
            due("draw(" + one + ")", each.draw(one), all.of(one, 3));
        }
        due("SEED", all.now(2), each.now(2));
        due("the one without a bench", all.of(1, 2), 0);
        due("one more can be undone", all.now(5), 2);
        due("drawAll() again", all.drawAll(), 0);
        due("that can't be undone", all.now(5), 2);
        BenchComposer single = Courts.like(3, 1);
        due("one alone", single.drawAll(), 1);
        due("it can be undone", single.now(5), 1);
    }

    private static void promise20Recuse() {
        BenchComposer x = Courts.threeDrawn(1);
        due("draw(3)", x.draw(3), 25);
        due("who comes: 0 1 3 has 124, 0 2 3 has 120", x.recuse(3, 4), 2);
        due("the bench", x.of(3, 3), 13);
        due("BARRED", x.of(3, 1), 16);
        due("SET yet", x.of(3, 2), 1);
        due("not on it", x.recuse(3, 4), -1);
        due("nobody can come", x.recuse(0, 1), -2);
        due("OPEN", x.of(0, 2), 0);
        due("no bench", x.of(0, 3), 0);
        due("BARRED though", x.of(0, 1), 26);
        due("OPEN case", x.recuse(0, 0), -1);
        x.hear(1);
        due("HEARD case", x.recuse(1, 2), -1);
        due("undo counts", x.now(5), 7);
        int[] strange = {-1, 5, 32, 33, MIN, MAX};
        for (int judge : strange) {
            due("recuse(3, " + judge + ")", x.recuse(3, judge), -1);
        }
        int[] cases = {-1, 4, MIN, MAX};
        for (int one : cases) {
            due("recuse(" + one + ", 0)", x.recuse(one, 0), -1);
        }
        // Of like ones the least comes; the bench needs a senior; nobody AWAY comes.
        BenchComposer like = Courts.drawnAs("case 1;", 28);
        due("the least of like ones", like.recuse(0, 3), 0);
        due("who went can't come back", like.recuse(0, 2), 1);
        BenchComposer away = Courts.drawnAs("case 1;", 28);
        away.leave(0);
        due("nobody AWAY comes", away.recuse(0, 3), 1);
        BenchComposer senior = Courts.of("court 3 1 0 0 0;judge 1;judge 1;judge 1;judge 9;judge 9;"
                + "senior 9;case 1 not 0 4;");
        due("draw(0)", senior.draw(0), 14);
        due("no senior could come", senior.recuse(0, 3), -2);
    }

    private static void promise21Leave() {
        BenchComposer x = Courts.threeDrawn(1);
        due("draw(3)", x.draw(3), 25);
        // Case 0 becomes OPEN first; without it 1 3 4 has 82 and 2 3 4 has 92.
        due("leave(0)", x.leave(0), 1);
        due("AWAY", x.judge(0, 1), 1);
        due("case 0", x.of(0, 2), 0);
        due("case 3", x.of(3, 3), 26);
        due("not BARRED", x.of(3, 1), 0);
        due("leave(0) again", x.leave(0), -1);
        x.hear(2);
        due("leave(2)", x.leave(2), 0);
        due("a HEARD case stays", x.of(2, 3), 14);
        due("case 1", x.of(1, 2), 0);
        due("undo counts", x.now(5), 7);
        int[] strange = {-1, 5, 32, MIN, MAX};
        for (int judge : strange) {
            due("leave(" + judge + ")", x.leave(judge), -1);
        }
        due("undo counts as ahead", x.now(5), 7);
    }

    private static void promise22Come() {
        BenchComposer x = Courts.threeDrawn(1);
        due("not AWAY", x.come(0), -1);
        x.leave(0);
        x.leave(4);
        due("come(0)", x.come(0), 1);
        due("come(0) again", x.come(0), -1);
        due("come(4)", x.come(4), 0);
        due("no more AWAY", x.judge(4, 1), 0);
        due("cases stay as they are", x.of(0, 2), 0);
        due("lawful again", x.lawful(0), 1);
        int[] strange = {-1, 5, 32, MIN, MAX};
        for (int judge : strange) {
            due("come(" + judge + ")", x.come(judge), -1);
        }
        due("undo counts", x.now(5), 7);
    }

    private static void promise23Hear() {
        BenchComposer x = Courts.threeDrawn(1);
        due("OPEN", x.hear(3), -1);
        due("hear(1)", x.hear(1), 1);
        due("hear(0)", x.hear(0), 2);
        due("HEARD already", x.hear(0), -1);
        due("its bench", x.of(0, 3), 7);
        due("stage", x.of(0, 2), 2);
        due("SET", x.now(3), 1);
        due("HEARD", x.now(4), 2);
        int[] strange = {-1, 4, MIN, MAX};
        for (int one : strange) {
            due("hear(" + one + ")", x.hear(one), -1);
        }
        due("undo counts", x.now(5), 5);
    }

    private static void promise24Evenness() {
        BenchComposer x = Courts.of(Courts.fiveJudges(1));
        due("nothing drawn", x.evenness(), 0);
        x.draw(0);
        due("one bench", x.evenness(), 3);
        x.draw(1);
        x.draw(2);
        due("three benches", x.evenness(), 13);
        x.hear(0);
        due("HEARD ones count", x.evenness(), 13);
        x.leave(4);
        due("two benches", x.evenness(), 8);
    }

    private static void dueBetter(BenchComposer x, int... want) {
        for (int what = 0; what < 5; what++) {
            due("better(" + what + ")", x.better(what), want[what]);
        }
        due("better(5)", x.better(5), -1);
        due("better(-1)", x.better(-1), -1);
        due("better(MIN)", x.better(MIN), -1);
    }

    private static void promise25Better() {
        dueBetter(Courts.drawnAs("case 1;case 1;case 1;", 7, 7, 28), 0, 0, 2, 3, 2);
        dueBetter(Courts.drawnAs("case 1;case 1;", 7, 11), -1, -1, -1, -1, -1);
        // Judge 3 is barred from case 0, so judge 4 comes there.
        dueBetter(Courts.drawnAs("case 1 not 3;case 1;case 1;", 7, 7, 28), 0, 0, 2, 4, 2);
        BenchComposer x = Courts.drawnAs("case 1;case 1;case 1;", 7, 7, 28);
        x.hear(0);
        dueBetter(x, 1, 0, 2, 3, 2);
        x.hear(2);
        dueBetter(x, -1, -1, -1, -1, -1);
        due("looking changes nothing", x.now(5), 3);
    }

    private static void promise26Exchange() {
        BenchComposer x = Courts.drawnAs("case 1 not 3;case 4;case 2;", 7, 7, 28);
        due("barred", x.exchange(0, 0, 2, 3), -1);
        due("x on both", x.exchange(0, 2, 2, 3), -1);
        due("y on both", x.exchange(2, 3, 1, 2), -1);
        due("x not on a", x.exchange(1, 3, 2, 4), -1);
        due("y not on b", x.exchange(1, 0, 2, 1), -1);
        due("a case with itself", x.exchange(1, 0, 1, 1), -1);
        int[] strange = {-1, 5, 32, 33, MIN, MAX};
        for (int odd : strange) {
            due("exchange, a", x.exchange(odd, 0, 2, 3), -1);
            due("exchange, x", x.exchange(1, odd, 2, 3), -1);
            due("exchange, b", x.exchange(1, 0, odd, 3), -1);
            due("exchange, y", x.exchange(1, 0, 2, odd), -1);
        }
        due("none of these counts", x.now(5), 1);
        due("exchange(1, 0, 2, 3)", x.exchange(1, 0, 2, 3), 13);
        due("case 1", x.of(1, 3), 14);
        due("case 2", x.of(2, 3), 21);
        due("back, a greater than b, EVENNESS more", x.exchange(2, 0, 1, 3), 15);
        due("case 1", x.of(1, 3), 7);
        due("case 2", x.of(2, 3), 28);
        due("both count", x.now(5), 3);
        due("undo()", x.undo(), 2);
        due("case 1, exchanged", x.of(1, 3), 14);
        due("undo()", x.undo(), 1);
        due("case 1, as drawn", x.of(1, 3), 7);
        due("case 2, as drawn", x.of(2, 3), 28);
        x.hear(1);
        due("HEARD", x.exchange(1, 0, 2, 3), -1);
        due("HEARD", x.exchange(2, 3, 1, 0), -1);
        promise26Senior();
    }

    private static void promise26Senior() {
        BenchComposer x = Courts.drawnAs("judge 9;judge 1;judge 1;judge 9;judge 1;senior 9;", "case 1;case 1;", 7, 28);
        due("no senior on a", x.exchange(0, 0, 1, 4), -1);
        due("no senior on b", x.exchange(0, 1, 1, 3), -1);
        due("nor the other way round", x.exchange(1, 3, 0, 1), -1);
        due("a senior for a senior", x.exchange(0, 0, 1, 3), 6);
        due("who presides on a", x.of(0, 4), 3);
        due("who presides on b", x.of(1, 4), 0);
    }

    private static void promise27Smooth() {
        BenchComposer x = Courts.drawnAs("case 1;case 1;case 1;", 7, 7, 28);
        due("smooth()", x.smooth(), 1);
        due("evenness()", x.evenness(), 13);
        due("case 0", x.of(0, 3), 14);
        due("case 1", x.of(1, 3), 7);
        due("case 2", x.of(2, 3), 21);
        due("one more can be undone", x.now(5), 2);
        due("smooth() again", x.smooth(), -1);
        due("that doesn't count", x.now(5), 2);
        due("undo()", x.undo(), 1);
        due("case 0 as ahead", x.of(0, 3), 7);
        due("evenness() as ahead", x.evenness(), 15);
    }

    private static void promises28And29Anew() {
        BenchComposer x = Courts.drawnAs("case 1;case 1;case 1;", 7, 7, 28);
        due("anew(0)", x.anew(0), 7);
        due("anew(1)", x.anew(1), 7);
        due("anew(2)", x.anew(2), 28);
        due("same()", x.same(), 3);
        x.exchange(0, 0, 2, 3);
        due("same() behind an exchange", x.same(), 1);
        due("anew(0) stays", x.anew(0), 7);
        x.hear(1);
        due("HEARD or not", x.same(), 1);
        x.undo();
        x.undo();
        x.undo();
        due("nothing drawn", x.same(), 0);
        int[] strange = {-1, 3, MIN, MAX};
        for (int one : strange) {
            due("anew(" + one + ")", x.anew(one), -1);
        }
        // Neither who is AWAY nor who was RECUSED matters.
        BenchComposer moved = Courts.threeDrawn(1);
        moved.draw(3);
        due("same()", moved.same(), 4);
        moved.recuse(3, 4);
        moved.leave(0);
        due("anew(3)", moved.anew(3), 25);
        due("same() without cases 0 and 3", moved.same(), 2);
        BenchComposer none = Courts.of(COURT + "judge 1;judge 2;case 1;case 2;");
        due("none of both", none.same(), 2);
        due("anew(0), OPEN", none.anew(0), 0);
    }

    private static void promise30Undo() {
        BenchComposer x = Courts.threeDrawn(1);
        int seed = x.now(2);
        due("draw(3)", x.draw(3), 25);
        x.recuse(3, 4);
        x.leave(0);
        x.come(0);
        x.hear(2);
        due("eight can be", x.now(5), 8);
        due("hear is undone", x.undo(), 7);
        due("case 2", x.of(2, 2), 1);
        due("come is undone", x.undo(), 6);
        due("AWAY", x.judge(0, 1), 1);
        due("leave is undone", x.undo(), 5);
        due("not AWAY", x.judge(0, 1), 0);
        due("case 0", x.of(0, 3), 7);
        due("case 3", x.of(3, 3), 13);
        due("recuse is undone", x.undo(), 4);
        due("not BARRED", x.of(3, 1), 0);
        due("case 3", x.of(3, 3), 25);
        due("draw is undone", x.undo(), 3);
        due("case 3", x.of(3, 2), 0);
        due("SEED, too", x.now(2), seed);
        due("drawn anew", x.draw(3), 25);
        promise30Most();
    }

    private static void promise30Most() {
        BenchComposer x = Courts.like(5, 1);
        x.leave(4);
        x.leave(3);
        for (int i = 0; i < 5; i++) {
            x.leave(2);
            x.come(2);
        }
        due("ten are kept", x.now(5), 10);
        for (int left = 9; left >= 0; left--) {
            due("undo()", x.undo(), left);
        }
        due("none is left", x.undo(), -1);
        due("the second leave stays", x.judge(3, 1), 1);
        due("judge 2 is there", x.judge(2, 1), 0);
        due("one more", x.leave(2), 0);
        due("one can be", x.now(5), 1);
        due("undo()", x.undo(), 0);
        due("judge 2 is there", x.judge(2, 1), 0);
        BenchComposer all = Courts.like(5, 5);
        all.drawAll();
        due("drawAll() is one", all.undo(), 0);
        due("SEED", all.now(2), 1);
        due("all OPEN", all.now(3), 0);
    }
}
