import java.math.BigInteger;

/** The edges of the document's sentences on what the calls change: a method a sentence. */
final class ChangeEdges {
    private static final String TERMS = "Terms";
    private static final String COURT = Courts.COURT;
    private static final int MIN = Integer.MIN_VALUE;
    private static final int MAX = Integer.MAX_VALUE;

    private static final int[] NO_SUCH = Courts.NO_SUCH;

    static final Runnable[] ALL = {
        ChangeEdges::seedWraps, ChangeEdges::placeInPool,
        ChangeEdges::leastTenseComes, ChangeEdges::leastOfLikeOnesComes, ChangeEdges::noneComes,
        ChangeEdges::recusedIsBarred, ChangeEdges::recusedIsRepaired, ChangeEdges::awayIsRepaired,
        ChangeEdges::byNumbers,
        ChangeEdges::judgeOfA, ChangeEdges::notOnB, ChangeEdges::judgeOfB, ChangeEdges::lawfulThen,
        ChangeEdges::eachTimesItself, ChangeEdges::firstExchange, ChangeEdges::evennessIsLess,
        ChangeEdges::drawnAnew, ChangeEdges::withoutLawfulStaysOpen, ChangeEdges::nothingElseDone,
        ChangeEdges::newTextOpen, ChangeEdges::newTextNobodyAway, ChangeEdges::newTextSeed,
        ChangeEdges::newTextNothingUndone, ChangeEdges::throwsChangesNothing, ChangeEdges::at512Calls,
        ChangeEdges::drawTells, ChangeEdges::drawNotOpen, ChangeEdges::drawNotLawful, ChangeEdges::drawAllByNumbers,
        ChangeEdges::drawAllButSome, ChangeEdges::drawAllTells,
        ChangeEdges::recuseTells, ChangeEdges::recuseOpenThen, ChangeEdges::recuseNoSuch,
        ChangeEdges::recuseNotOnBench, ChangeEdges::leaveTells, ChangeEdges::leaveNoSuch, ChangeEdges::leaveAway,
        ChangeEdges::comeTells, ChangeEdges::comeNoSuch, ChangeEdges::comeNotAway, ChangeEdges::hearTells,
        ChangeEdges::hearNoSuch,
        ChangeEdges::evennessTells, ChangeEdges::betterTells, ChangeEdges::betterNone, ChangeEdges::betterAnotherWhat,
        ChangeEdges::exchangeTells, ChangeEdges::exchangeNoSuch, ChangeEdges::exchangeNotLawful,
        ChangeEdges::smoothTillNone, ChangeEdges::smoothAtMost40, ChangeEdges::smoothNotOnce,
        ChangeEdges::sameTells, ChangeEdges::sameNoneOfBoth, ChangeEdges::anewTells, ChangeEdges::anewNoSuch,
        ChangeEdges::undoEach, ChangeEdges::undoNotOfNone, ChangeEdges::undoDrawAllOfNone, ChangeEdges::undoSeed,
        ChangeEdges::undoTells, ChangeEdges::undoTenAtMost, ChangeEdges::undoTenBehindRefused, ChangeEdges::undoNone
    };

    private ChangeEdges() {
    }

    private static void due(String what, long got, long want) {
        Check.due(what, got, want);
    }

    private static void dueAlike(String what, String got, String want) {
        Check.due(what + ": " + got + " instead of " + want, got.equals(want), true);
    }

    // terms: draws

    private static BigInteger nextSeed(BigInteger seed) {
        return seed.multiply(BigInteger.valueOf(1103515245)).add(BigInteger.valueOf(12345))
                .mod(BigInteger.ONE.shiftLeft(32));
    }

    private static void seedWraps() {
        Doc.says(TERMS, "To DRAW the BENCH of an OPEN case: SEED becomes SEED * 1103515245 + 12345 "
                + "(an int, wrapping);");
        int[] told = {0, 1, 7, 4711, 9999};
        for (int first : told) {
            BenchComposer x = Courts.of("court " + first + " 1 1 1 1;" + "judge 1;".repeat(3) + "case 1;".repeat(14));
            BigInteger seed = BigInteger.valueOf(first);
            for (int one = 0; one < 14; one++) {
                seed = nextSeed(seed);
                x.draw(one);
                due("SEED " + first + ", draw " + one, x.now(2), seed.intValue());
            }
        }
    }

    private static void placeInPool() {
        Doc.says(TERMS, "(SEED >>> 8) % n (n: how many there are in POOL) is its place in POOL, in order; "
                + "the case is SET.");
        // TENSION is 0 of 0 3 4, 1 3 4 and 2 3 4, and 1 of the other six: the order is that of BENCHES though.
        int[] pool = {11, 19, 13, 21, 25, 14, 22, 26, 28};
        for (int first = 0; first < 60; first++) {
            BenchComposer x = Courts.of("court " + first + " 9 1 0 0;" + "judge 1;".repeat(5)
                    + "case 1 not 3 4;case 1;");
            x.draw(0);
            BigInteger seed = nextSeed(nextSeed(BigInteger.valueOf(first)));
            int place = seed.shiftRight(8).mod(BigInteger.valueOf(9)).intValue();
            due("SEED " + first, x.draw(1), pool[place]);
            due("SET", x.of(1, 2), 1);
        }
    }

    // terms: repairs

    private static void leastTenseComes() {
        Doc.says(TERMS, "To REPAIR a SET case one of whose judges goes: of the others who, with the two that stay, "
                + "make a LAWFUL BENCH that one comes by whom its TENSION is least,");
        BenchComposer x = Courts.threeDrawn(1);
        due("draw(3)", x.draw(3), 25);
        due("0 1 3 has 124, 0 2 3 has 120", x.recuse(3, 4), 2);
        due("the two stay", x.of(3, 3), 13);
        due("SET yet", x.of(3, 2), 1);
        BenchComposer away = Courts.threeDrawn(1);
        away.draw(3);
        away.hear(0);
        away.hear(1);
        away.hear(2);
        away.leave(2);
        due("2 is AWAY", away.recuse(3, 4), 1);
        BenchComposer barred = Courts.of("court 1 1 1 0 0;" + "judge 1;".repeat(5)
                + "case 1 not 3 4;case 1 not 0 1;case 1 not 3;");
        due("draw(0)", barred.draw(0), 7);
        due("3 and 4 are BARRED", barred.recuse(0, 0), -2);
        BenchComposer senior = Courts.drawnAs("judge 9;judge 1;judge 1;judge 1;judge 9;senior 9;", "case 1;", 7);
        due("a SENIOR is wanted", senior.recuse(0, 0), 4);
    }

    private static void leastOfLikeOnesComes() {
        Doc.says(TERMS, "TENSION is least, of like ones the least;");
        BenchComposer low = Courts.drawnAs("case 1;", 28);
        due("0 ahead of 1", low.recuse(0, 3), 0);
        BenchComposer high = Courts.drawnAs("case 1;", 7);
        due("3 ahead of 4", high.recuse(0, 0), 3);
        due("4 is left", high.recuse(0, 3), 4);
        due("who went comes no more", high.recuse(0, 4), -2);
    }

    private static void noneComes() {
        Doc.says(TERMS, "is there none, the case is OPEN.");
        BenchComposer x = Courts.like(3, 2);
        x.drawAll();
        x.hear(1);
        x.leave(2);
        due("stage", x.of(0, 2), 0);
        due("BENCH", x.of(0, 3), 0);
        due("SET", x.now(3), 0);
        due("the HEARD bench alone counts", x.pair(0, 1), 1);
        x.come(2);
        due("OPEN, so it can be drawn", x.draw(0), 7);
    }

    private static void recusedIsBarred() {
        Doc.says(TERMS, "A judge RECUSED from a case is BARRED from it from then on,");
        BenchComposer x = Courts.like(4, 2);
        int bench = x.draw(0);
        x.draw(1);
        int judge = Integer.numberOfTrailingZeros(bench);
        x.recuse(0, judge);
        due("BARRED from it", x.of(0, 1), 1 << judge);
        due("from one case", x.judge(judge, 5), 1);
        due("not from the other", x.of(1, 1), 0);
        due("one is LAWFUL", x.lawful(0), 1);
        x.leave(judge);
        x.come(judge);
        due("BARRED yet", x.of(0, 1), 1 << judge);
        // The next one who goes leaves two, and the case OPEN: both are BARRED.
        int other = Integer.numberOfTrailingZeros(x.of(0, 3));
        due("nobody is left", x.recuse(0, other), -2);
        due("both are BARRED", x.of(0, 1), 1 << judge | 1 << other);
        due("none is LAWFUL", x.lawful(0), 0);
    }

    private static void recusedIsRepaired() {
        Doc.says(TERMS, "and it is REPAIRED.");
        BenchComposer x = Courts.like(4, 1);
        int bench = x.draw(0);
        int judge = Integer.numberOfTrailingZeros(bench);
        due("the fourth comes", x.recuse(0, judge), Integer.numberOfTrailingZeros(15 & ~bench));
        due("the BENCH", x.of(0, 3), 15 & ~(1 << judge));
    }

    private static void awayIsRepaired() {
        Doc.says(TERMS, "A judge who goes AWAY: all SET cases that have the judge are REPAIRED,");
        BenchComposer x = Courts.drawnAs("case 1;case 1;case 1;", 7, 28, 7);
        x.hear(2);
        due("leave(0)", x.leave(0), 1);
        due("case 0", x.of(0, 3), 14);
        due("one without the judge stays", x.of(1, 3), 28);
        due("a HEARD one stays", x.of(2, 3), 7);
        due("not BARRED", x.of(0, 1), 0);
        BenchComposer most = Courts.of("court 1 1 0 0 0;" + "judge 1;".repeat(4) + "case 1 not 3;".repeat(13)
                + "case 1;");
        most.drawAll();
        most.leave(0);
        due("thirteen are OPEN", most.now(3), 1);
    }

    private static void byNumbers() {
        Doc.says(TERMS, "are REPAIRED, by numbers.");
        BenchComposer x = Courts.threeDrawn(1);
        due("draw(3)", x.draw(3), 25);
        // Case 0 is OPEN first; without it 1 3 4 has 82 and 2 3 4 has 92. With it they have 112 and 110.
        due("leave(0)", x.leave(0), 1);
        due("case 0", x.of(0, 2), 0);
        due("case 3", x.of(3, 3), 26);
    }

    // terms: exchanges

    private static void judgeOfA() {
        Doc.says(TERMS, "EXCHANGE: judge x of SET case a,");
        BenchComposer x = Courts.drawnAs("case 1;case 1;case 1;", 7, 7, 28);
        due("x is not on a", x.exchange(1, 3, 2, 4), -1);
        due("x is on neither", Courts.drawnAs("case 1;case 1;", 7, 11).exchange(0, 4, 1, 3), -1);
        due("a is SET", x.exchange(1, 0, 2, 3), 13);
        x.undo();
        x.hear(1);
        due("a is HEARD", x.exchange(1, 0, 2, 3), -1);
        BenchComposer open = Courts.threeDrawn(1);
        due("a is OPEN", open.exchange(3, 0, 1, 3), -1);
    }

    private static void notOnB() {
        Doc.says(TERMS, "not on the BENCH of SET case b,");
        BenchComposer x = Courts.drawnAs("case 1;case 1;case 1;", 7, 7, 28);
        due("x is on both", x.exchange(1, 2, 2, 3), -1);
        due("x is on both, the same bench", x.exchange(0, 0, 1, 1), -1);
        due("a and b are one", x.exchange(0, 0, 0, 1), -1);
        x.hear(2);
        due("b is HEARD", x.exchange(1, 0, 2, 3), -1);
        BenchComposer open = Courts.threeDrawn(1);
        due("b is OPEN", open.exchange(1, 3, 3, 0), -1);
    }

    private static void judgeOfB() {
        Doc.says(TERMS, "and judge y of b, not on that of a, change places;");
        BenchComposer x = Courts.drawnAs("case 1;case 1;case 1;", 7, 7, 28);
        due("y is not on b", x.exchange(1, 0, 2, 1), -1);
        due("y is on neither", Courts.drawnAs("case 1;case 1;", 7, 11).exchange(0, 2, 1, 4), -1);
        due("y is on both", x.exchange(1, 0, 2, 2), -1);
        due("x and y are one", x.exchange(1, 0, 2, 0), -1);
        due("they change places", x.exchange(1, 0, 2, 3), 13);
        due("a", x.of(1, 3), 14);
        due("b", x.of(2, 3), 21);
        due("a greater than b", x.exchange(2, 0, 1, 3), 15);
        due("a", x.of(2, 3), 28);
        due("b", x.of(1, 3), 7);
    }

    private static void lawfulThen() {
        Doc.says(TERMS, "both BENCHES must be LAWFUL then.");
        BenchComposer x = Courts.drawnAs("case 1 not 3;case 1 not 0;", 7, 28);
        due("y is BARRED from a", x.exchange(0, 1, 1, 3), -1);
        due("x is BARRED from b", x.exchange(0, 0, 1, 4), -1);
        due("neither is", x.exchange(0, 1, 1, 4), 6);
        BenchComposer senior = Courts.drawnAs("judge 9;judge 1;judge 1;judge 9;judge 1;senior 9;", "case 1;case 1;",
                7, 28);
        due("no SENIOR on a", senior.exchange(0, 0, 1, 4), -1);
        due("no SENIOR on b", senior.exchange(0, 1, 1, 3), -1);
        due("a SENIOR for a SENIOR", senior.exchange(0, 0, 1, 3), 6);
    }

    private static void eachTimesItself() {
        Doc.says(TERMS, "EVENNESS: PAIRS of all twos, each times itself, together.");
        BenchComposer x = Courts.like(3, 14);
        for (int n = 1; n <= 14; n++) {
            x.draw(n - 1);
            due("a bench " + n + " times", x.evenness(), 3 * n * n);
        }
        BenchComposer last = Courts.of(COURT + "judge 1;".repeat(9) + "case 1 not 0 1 2 3 4 5;case 1 not 3 4 5 6 7 8;");
        last.drawAll();
        due("of the last judges, too", last.evenness(), 6);
    }

    /** By the words of the document, through exchange() and undo(): a, x, b, y and by how much; null: none. */
    private static int[] firstBetter(BenchComposer x) {
        int even = x.evenness();
        int cases = x.now(1);
        int judges = x.now(0);
        for (int i = 0; i < cases * judges * cases * judges; i++) {
            int a = i / (judges * cases * judges);
            int p = i / (cases * judges) % judges;
            int b = i / judges % cases;
            int q = i % judges;
            int then = a < b ? x.exchange(a, p, b, q) : -1;
            if (then != -1) {
                x.undo();
                if (then < even) {
                    return new int[] {a, p, b, q, even - then};
                }
            }
        }
        return null;
    }

    private static void dueBetter(String what, BenchComposer x) {
        int[] first = firstBetter(x);
        for (int part = 0; part < 5; part++) {
            due(what + ", better(" + part + ")", x.better(part), first == null ? -1 : first[part]);
        }
    }

    private static void firstExchange() {
        Doc.says(TERMS, "BETTER: the first EXCHANGE, by a, x, b, y (a less than b),");
        for (int seed = 0; seed < 100; seed++) {
            String text = "court " + seed + " 20 0 0 0;judge 1;judge 2;judge 3;judge 1;judge 2;judge 3;senior 2;"
                    + "case 1;case 1 not 2;case 1;case 1 not 0 5;";
            BenchComposer x = Courts.of(text);
            x.drawAll();
            dueBetter("SEED " + seed, x);
            BenchComposer heard = Courts.of(text);
            heard.drawAll();
            heard.hear(seed % 4);
            dueBetter("SEED " + seed + ", one HEARD", heard);
        }
        for (int seed = 0; seed < 200; seed++) {
            // A later one may be better still; the first it is.
            BenchComposer x = Courts.of("court " + seed + " 20 0 0 0;" + "judge 1;".repeat(5) + "case 1;".repeat(5));
            x.drawAll();
            dueBetter("five cases, SEED " + seed, x);
        }
        BenchComposer back = Courts.drawnAs("case 1;case 1;case 1;", 28, 7, 7);
        due("a is less than b", back.better(0), 0);
        due("x", back.better(1), 3);
        due("b", back.better(2), 1);
        due("y", back.better(3), 0);
    }

    private static void evennessIsLess() {
        Doc.says(TERMS, "by which EVENNESS is less.");
        // Every EXCHANGE leaves two benches with one judge of both, and EVENNESS at 6.
        BenchComposer x = Courts.drawnAs("case 1;case 1;", 7, 28);
        due("EVENNESS", x.evenness(), 6);
        due("as it was", x.exchange(0, 0, 1, 3), 6);
        x.undo();
        for (int what = 0; what < 5; what++) {
            due("better(" + what + ")", x.better(what), -1);
        }
        BenchComposer less = Courts.drawnAs("case 1;case 1;case 1;", 7, 7, 28);
        due("15 to 13", less.better(4), 2);
    }

    // terms: texts

    private static void drawnAnew() {
        Doc.says(TERMS, "ANEW: what comes of the TEXT, if all its cases are DRAWN by their numbers");
        String text = "court 4711 5 3 2 4;judge 40;judge 25;judge 61;judge 25;judge 70;judge 12;senior 55;"
                + "case 9;case 3 not 2;case 5;case 1 not 0 4;case 7;";
        BenchComposer x = Courts.of(text);
        BenchComposer other = Courts.of(text);
        for (int one = 0; one < 5; one++) {
            due("anew(" + one + ")", x.anew(one), other.draw(one));
        }
        due("nothing is drawn by asking", x.now(3), 0);
        due("SEED stays", x.now(2), 4711);
    }

    private static void withoutLawfulStaysOpen() {
        Doc.says(TERMS, "(one without a LAWFUL BENCH stays OPEN),");
        BenchComposer x = Courts.of("court 7 20 0 0 0;" + "judge 1;".repeat(5) + "case 1;case 1 not 0 1 2;case 1;");
        BenchComposer other = Courts.of("court 7 20 0 0 0;" + "judge 1;".repeat(5) + "case 1;case 1;");
        due("anew(0)", x.anew(0), other.draw(0));
        due("anew(1)", x.anew(1), 0);
        // It takes no turn of SEED.
        due("anew(2)", x.anew(2), other.draw(1));
        due("all of two judges", Courts.like(2, 14).anew(13), 0);
    }

    private static void nothingElseDone() {
        Doc.says(TERMS, "nothing else being done.");
        BenchComposer x = Courts.threeDrawn(20);
        int[] anew = {7, 28, 14, x.anew(3)};
        x.draw(3);
        due("drawn by numbers", x.of(3, 3), anew[3]);
        x.recuse(3, Integer.numberOfTrailingZeros(anew[3]));
        x.hear(2);
        x.leave(1);
        x.leave(4);
        x.undo();
        x.drawAll();
        for (int one = 0; one < 4; one++) {
            due("anew(" + one + ")", x.anew(one), anew[one]);
        }
        BenchComposer turned = Courts.of(Courts.fiveJudges(20));
        turned.draw(3);
        due("drawn in another order", turned.anew(3), anew[3]);
    }

    /** A court where everything was done, and then the same TEXT came again. */
    private static BenchComposer toldAgain() {
        BenchComposer x = Courts.threeDrawn(1);
        x.draw(3);
        x.recuse(3, 4);
        x.hear(2);
        x.leave(0);
        due("the TEXT again", Check.tell(x, Courts.fiveJudges(1)), 10);
        return x;
    }

    private static void newTextOpen() {
        Doc.says(TERMS, "A new TEXT: all cases are OPEN,");
        BenchComposer x = toldAgain();
        due("SET", x.now(3), 0);
        due("HEARD", x.now(4), 0);
        for (int one = 0; one < 4; one++) {
            due("of(" + one + ", 2)", x.of(one, 2), 0);
            due("of(" + one + ", 3)", x.of(one, 3), 0);
        }
        due("BARRED as told", x.of(3, 1), 0);
        due("EVENNESS", x.evenness(), 0);
        due("LOAD", x.judge(1, 2), 0);
        dueAlike("as at first", Courts.seen(x), Courts.seen(Courts.of(Courts.fiveJudges(1))));
    }

    private static void newTextNobodyAway() {
        Doc.says(TERMS, "nobody is AWAY,");
        BenchComposer x = toldAgain();
        due("not AWAY", x.judge(0, 1), 0);
        due("all are LAWFUL", x.lawful(3), 10);
        due("nobody comes", x.come(0), -1);
    }

    private static void newTextSeed() {
        Doc.says(TERMS, "SEED as told,");
        due("now(2)", toldAgain().now(2), 5);
        BenchComposer x = Courts.threeDrawn(1);
        Check.tell(x, "court 9999 1 1 1 1;");
        due("of another TEXT", x.now(2), 9999);
    }

    private static void newTextNothingUndone() {
        Doc.says(TERMS, "nothing can be undone.");
        BenchComposer x = toldAgain();
        due("now(5)", x.now(5), 0);
        due("undo()", x.undo(), -1);
        x.leave(4);
        due("now(5)", x.now(5), 1);
        due("undo()", x.undo(), 0);
        due("undo()", x.undo(), -1);
        due("not AWAY", x.judge(0, 1), 0);
    }

    private static void throwsChangesNothing() {
        Doc.says(TERMS, "A call that throws changes nothing.");
        BenchComposer x = Courts.threeDrawn(1);
        x.leave(0);
        x.feed(1, 2, 3, 4, 5);
        String before = Courts.seen(x);
        for (int other : NO_SUCH) {
            Check.judgeThrows(x, other, 2);
            Check.judgeThrows(x, 0, other < 0 || other > 5 ? other : 6);
            Check.ofThrows(x, other, 4);
            Check.ofThrows(x, 0, other);
        }
        dueAlike("all is as ahead", Courts.seen(x), before);
        due("undo()", x.undo(), 3);
    }

    private static void at512Calls() {
        Doc.says("What it is", "An object is used for at most 512 calls after it has been made;");
        BenchComposer x = Courts.like(5, 1);
        // Four feeds, two ends, one text.
        int calls = 7;
        while (calls < 509) {
            due("leave(4), call " + (calls + 1), x.leave(4), 0);
            due("come(4), call " + (calls + 2), x.come(4), 0);
            calls += 2;
        }
        due("now(5), call 510", x.now(5), 10);
        due("undo(), call 511", x.undo(), 9);
        due("judge(4, 1), call 512", x.judge(4, 1), 1);
    }

    // promises 18 and 19

    private static void drawTells() {
        Doc.says("Promise 18", "DRAWN: its BENCH;");
        BenchComposer x = Courts.of("court 7 20 0 0 0;" + "judge 1;".repeat(5) + "case 1;".repeat(14));
        for (int one = 13; one >= 0; one--) {
            int bench = x.draw(one);
            due("of(" + one + ", 3)", x.of(one, 3), bench);
            due("of(" + one + ", 2)", x.of(one, 2), 1);
            due("three judges", Integer.bitCount(bench), 3);
            due("SET", x.now(3), 14 - one);
        }
    }

    private static void drawNotOpen() {
        Doc.says("Promise 18", "NONE: no such OPEN case,");
        BenchComposer x = Courts.threeDrawn(1);
        x.hear(1);
        String before = Courts.seen(x);
        due("SET", x.draw(0), -1);
        due("HEARD", x.draw(1), -1);
        due("draw(4)", x.draw(4), -1);
        for (int one : NO_SUCH) {
            due("draw(" + one + ")", x.draw(one), -1);
        }
        dueAlike("nothing is drawn", Courts.seen(x), before);
        due("draw(14) of fourteen", Courts.like(3, 14).draw(14), -1);
        due("draw(13) of fourteen", Courts.like(3, 14).draw(13), 7);
    }

    private static void drawNotLawful() {
        Doc.says("Promise 18", "no LAWFUL BENCH.");
        BenchComposer x = Courts.of(COURT + "judge 1;".repeat(4) + "case 1 not 0 1;case 1;");
        due("two may", x.draw(0), -1);
        due("SEED stays", x.now(2), 1);
        due("nothing to undo", x.now(5), 0);
        due("OPEN yet", x.of(0, 2), 0);
        x.leave(0);
        due("three are there", x.draw(1), 14);
        x.undo();
        x.leave(1);
        due("two are there", x.draw(1), -1);
        BenchComposer senior = Courts.of(COURT + "judge 1;judge 1;judge 1;senior 2;case 1;");
        due("nobody SENIOR", senior.draw(0), -1);
    }

    private static void drawAllByNumbers() {
        Doc.says("Promise 19", "All OPEN cases are DRAWN by numbers,");
        String text = "court 77 3 2 1 1;judge 9;judge 8;judge 7;judge 6;judge 5;judge 4;case 3;case 1;case 4;case 5;";
        BenchComposer all = Courts.of(text);
        BenchComposer each = Courts.of(text);
        due("draw(2)", all.draw(2), each.draw(2));
        each.hear(2);
        all.hear(2);
        due("drawAll()", all.drawAll(), 3);
        due("of(0, 3)", all.of(0, 3), each.draw(0));
        due("of(1, 3)", all.of(1, 3), each.draw(1));
        due("of(3, 3)", all.of(3, 3), each.draw(3));
        due("SEED", all.now(2), each.now(2));
        due("the HEARD one stays", all.of(2, 2), 2);
    }

    private static void drawAllButSome() {
        Doc.says("Promise 19", "but those without a LAWFUL BENCH:");
        String judges = "court 7 20 0 0 0;" + "judge 1;".repeat(4);
        BenchComposer x = Courts.of(judges + "case 1 not 0 1;case 1;case 1 not 2 3;case 1;case 1 not 1 2;");
        BenchComposer other = Courts.of(judges + "case 1;case 1;");
        due("drawAll()", x.drawAll(), 2);
        due("of(1, 3)", x.of(1, 3), other.draw(0));
        due("of(3, 3)", x.of(3, 3), other.draw(1));
        due("SEED", x.now(2), other.now(2));
        due("of(0, 2)", x.of(0, 2), 0);
        due("of(2, 2)", x.of(2, 2), 0);
        due("of(4, 2)", x.of(4, 2), 0);
    }

    private static void drawAllTells() {
        Doc.says("Promise 19", "how many were.");
        BenchComposer x = Courts.like(3, 14);
        due("fourteen", x.drawAll(), 14);
        due("none is OPEN", x.drawAll(), 0);
        x.undo();
        x.draw(5);
        due("thirteen", x.drawAll(), 13);
        due("no case", Courts.like(3, 0).drawAll(), 0);
        due("none LAWFUL", Courts.like(2, 14).drawAll(), 0);
        due("no court", new BenchComposer().drawAll(), 0);
    }

    // promises 20 to 23

    private static void recuseTells() {
        Doc.says("Promise 20", "RECUSED from a SET case: who comes;");
        due("0 comes", Courts.drawnAs("case 1;", 28).recuse(0, 2), 0);
        due("4 comes", Courts.drawnAs("case 1 not 3;", 7).recuse(0, 1), 4);
        BenchComposer x = Courts.of(COURT + "judge 1;".repeat(9) + "case 1 not 2 3 4 5 6;case 1 not 0 1 2 3 4 5;");
        due("draw(1)", x.draw(1), 448);
        due("draw(0), 0 1 and 7 or 8", Integer.bitCount(x.draw(0) & 3), 2);
        int last = x.of(0, 3) >> 8 == 1 ? 8 : 7;
        due("the other of 7 and 8 comes", x.recuse(0, last), 15 - last);
    }

    private static void recuseOpenThen() {
        Doc.says("Promise 20", "-2: it is OPEN then.");
        BenchComposer x = Courts.like(3, 1);
        x.draw(0);
        due("recuse(0, 2)", x.recuse(0, 2), -2);
        due("OPEN", x.of(0, 2), 0);
        due("no BENCH", x.of(0, 3), 0);
        due("BARRED", x.of(0, 1), 4);
        due("it can be undone", x.undo(), 1);
        due("SET", x.of(0, 3), 7);
        due("not BARRED", x.of(0, 1), 0);
    }

    private static void recuseNoSuch() {
        Doc.says("Promise 20", "NONE: no such ones,");
        BenchComposer x = Courts.threeDrawn(1);
        x.hear(1);
        String before = Courts.seen(x);
        due("recuse(4, 0)", x.recuse(4, 0), -1);
        for (int other : NO_SUCH) {
            due("recuse(" + other + ", 0)", x.recuse(other, 0), -1);
            due("recuse(0, " + other + ")", x.recuse(0, other), -1);
        }
        due("an OPEN case", x.recuse(3, 0), -1);
        due("a HEARD case", x.recuse(1, 2), -1);
        dueAlike("all stays", Courts.seen(x), before);
    }

    private static void recuseNotOnBench() {
        Doc.says("Promise 20", "not on its BENCH.");
        BenchComposer x = Courts.threeDrawn(1);
        String before = Courts.seen(x);
        due("recuse(0, 3)", x.recuse(0, 3), -1);
        due("recuse(1, 0)", x.recuse(1, 0), -1);
        dueAlike("nobody is BARRED", Courts.seen(x), before);
        x.recuse(0, 2);
        due("who went already", x.recuse(0, 2), -1);
    }

    private static void leaveTells() {
        Doc.says("Promise 21", "A judge is AWAY: how many cases were REPAIRED that did not become OPEN.");
        BenchComposer x = Courts.like(4, 14);
        x.drawAll();
        int on = x.judge(3, 3);
        due("those that had the judge", x.leave(3), on);
        due("AWAY", x.judge(3, 1), 1);
        due("all have 0 1 2", x.pair(0, 1), 14);
        due("three left: all OPEN", x.leave(0), 0);
        due("SET", x.now(3), 0);
        due("nothing to repair", x.leave(1), 0);
        due("nobody is there", x.leave(2), 0);
        BenchComposer some = Courts.threeDrawn(1);
        due("one OPEN, one not", some.draw(3) + some.leave(0), 25 + 1);
        due("a court without cases", Courts.like(1, 0).leave(0), 0);
    }

    private static void leaveNoSuch() {
        Doc.says("Promise 21", "NONE: no such one,");
        BenchComposer x = Courts.threeDrawn(1);
        String before = Courts.seen(x);
        for (int judge : NO_SUCH) {
            due("leave(" + judge + ")", x.leave(judge), -1);
        }
        dueAlike("all stays", Courts.seen(x), before);
        due("leave(9) of nine", Courts.like(9, 0).leave(9), -1);
        due("leave(8) of nine", Courts.like(9, 0).leave(8), 0);
    }

    private static void leaveAway() {
        Doc.says("Promise 21", "no such one, AWAY.");
        BenchComposer x = Courts.threeDrawn(1);
        x.leave(0);
        x.leave(4);
        String before = Courts.seen(x);
        due("leave(0) again", x.leave(0), -1);
        due("leave(4) again", x.leave(4), -1);
        dueAlike("all stays", Courts.seen(x), before);
    }

    private static void comeTells() {
        Doc.says("Promise 22", "A judge is no more AWAY: how many are AWAY yet.");
        BenchComposer x = Courts.like(9, 1);
        for (int judge = 0; judge < 9; judge++) {
            x.leave(judge);
        }
        for (int judge = 8; judge >= 0; judge--) {
            due("come(" + judge + ")", x.come(judge), judge);
            due("judge(" + judge + ", 1)", x.judge(judge, 1), 0);
        }
        due("all are LAWFUL", x.lawful(0), 84);
        BenchComposer open = Courts.threeDrawn(1);
        open.leave(0);
        open.come(0);
        due("cases stay as they became", open.of(0, 2), 0);
    }

    private static void comeNoSuch() {
        Doc.says("Promise 22", "NONE: no such one,");
        BenchComposer x = Courts.threeDrawn(1);
        x.leave(0);
        String before = Courts.seen(x);
        for (int judge : NO_SUCH) {
            due("come(" + judge + ")", x.come(judge), -1);
        }
        dueAlike("all stays", Courts.seen(x), before);
    }

    private static void comeNotAway() {
        Doc.says("Promise 22", "not AWAY.");
        BenchComposer x = Courts.threeDrawn(1);
        x.leave(0);
        String before = Courts.seen(x);
        due("come(1)", x.come(1), -1);
        due("come(4)", x.come(4), -1);
        dueAlike("all stays", Courts.seen(x), before);
        x.come(0);
        due("come(0) again", x.come(0), -1);
    }

    private static void hearTells() {
        Doc.says("Promise 23", "A SET case is HEARD: how many are;");
        BenchComposer x = Courts.like(3, 14);
        x.drawAll();
        for (int one = 13; one >= 0; one--) {
            due("hear(" + one + ")", x.hear(one), 14 - one);
            due("of(" + one + ", 2)", x.of(one, 2), 2);
        }
        due("its BENCH stays", x.of(0, 3), 7);
    }

    private static void hearNoSuch() {
        Doc.says("Promise 23", "NONE: no such one.");
        BenchComposer x = Courts.threeDrawn(1);
        x.hear(1);
        String before = Courts.seen(x);
        due("an OPEN case", x.hear(3), -1);
        due("a HEARD case", x.hear(1), -1);
        due("hear(4)", x.hear(4), -1);
        for (int one : NO_SUCH) {
            due("hear(" + one + ")", x.hear(one), -1);
        }
        dueAlike("all stays", Courts.seen(x), before);
    }

    // promises 24 to 27

    private static void evennessTells() {
        Doc.says("Promise 24", "EVENNESS.");
        due("no court", new BenchComposer().evenness(), 0);
        due("no case", Courts.like(3, 0).evenness(), 0);
        BenchComposer x = Courts.of(Courts.fiveJudges(1));
        due("none is drawn", x.evenness(), 0);
        x = Courts.threeDrawn(1);
        due("twice two PAIRS, five of one", x.evenness(), 4 + 4 + 5);
        x.hear(0);
        due("HEARD counts", x.evenness(), 13);
        x.leave(4);
        due("OPEN does not", x.evenness(), 8);
        BenchComposer most = Courts.like(3, 14);
        most.drawAll();
        due("the most", most.evenness(), 588);
    }

    private static void betterTells() {
        Doc.says("Promise 25", "BETTER: a (what 0), x (1), b (2), y (3), by how much EVENNESS is less (4).");
        BenchComposer x = Courts.drawnAs("case 1;case 1;case 1;", 7, 7, 28);
        int[] want = {0, 0, 2, 3, 2};
        String before = Courts.seen(x);
        for (int what = 0; what < 5; what++) {
            due("better(" + what + ")", x.better(what), want[what]);
        }
        dueAlike("it is not done", Courts.seen(x), before);
        due("done", x.exchange(0, 0, 2, 3), 13);
    }

    private static void betterNone() {
        Doc.says("Promise 25", "NONE: none,");
        BenchComposer[] courts = {new BenchComposer(), Courts.like(9, 14), Courts.like(3, 14),
            Courts.drawnAs("case 1;case 1;", 7, 28), Courts.drawnAs("case 1;case 1;case 1;", 7, 7, 28)};
        courts[2].drawAll();
        courts[4].hear(2);
        for (int i = 0; i < courts.length; i++) {
            for (int what = 0; what < 5; what++) {
                due("court " + i + ", better(" + what + ")", courts[i].better(what), -1);
            }
        }
    }

    private static void betterAnotherWhat() {
        Doc.says("Promise 25", "another what.");
        BenchComposer x = Courts.drawnAs("case 1;case 1;case 1;", 7, 7, 28);
        int[] others = {-1, 5, 6, MIN, MAX};
        for (int what : others) {
            due("better(" + what + ")", x.better(what), -1);
        }
    }

    private static void exchangeTells() {
        Doc.says("Promise 26", "EXCHANGE: EVENNESS then;");
        BenchComposer x = Courts.drawnAs("case 1;case 1;case 1;", 7, 7, 28);
        due("less", x.exchange(0, 0, 2, 3), 13);
        due("evenness()", x.evenness(), 13);
        due("more", x.exchange(0, 3, 2, 0), 15);
        due("both can be undone", x.now(5), 3);
        due("alike", Courts.drawnAs("case 1;case 1;", 7, 28).exchange(0, 0, 1, 4), 6);
    }

    private static void exchangeNoSuch() {
        Doc.says("Promise 26", "NONE: no such ones,");
        BenchComposer x = Courts.drawnAs("case 1;case 1;case 1;", 7, 7, 28);
        String before = Courts.seen(x);
        for (int other : NO_SUCH) {
            due("a " + other, x.exchange(other, 0, 2, 3), -1);
            due("x " + other, x.exchange(0, other, 2, 3), -1);
            due("b " + other, x.exchange(0, 0, other, 3), -1);
            due("y " + other, x.exchange(0, 0, 2, other), -1);
        }
        due("a 3", x.exchange(3, 0, 2, 3), -1);
        due("b 3", x.exchange(0, 0, 3, 3), -1);
        dueAlike("all stays", Courts.seen(x), before);
    }

    private static void exchangeNotLawful() {
        Doc.says("Promise 26", "not LAWFUL.");
        BenchComposer x = Courts.drawnAs("case 1 not 3;case 1 not 0;", 7, 28);
        String before = Courts.seen(x);
        due("of a", x.exchange(0, 1, 1, 3), -1);
        due("of b", x.exchange(0, 0, 1, 4), -1);
        due("of b, the other way round", x.exchange(1, 3, 0, 1), -1);
        dueAlike("all stays", Courts.seen(x), before);
        BenchComposer recused = Courts.drawnAs("case 1;case 1;case 1;", 7, 28, 7);
        due("3 comes", recused.recuse(0, 0), 3);
        due("0 is BARRED by now", recused.exchange(0, 3, 2, 0), -1);
    }

    /** Seven cases have 6 7 8, the others 0 1 2 3 4 5 mostly: BETTER can be done 46 times. */
    private static BenchComposer veryUneven() {
        BenchComposer x = Courts.of("court 8186 20 0 0 0;" + "judge 1;".repeat(9) + "case 1;".repeat(14));
        for (int judge = 0; judge <= 5; judge++) {
            x.leave(judge);
        }
        drawInTurn(x, 1, 5, 6, 7, 8, 11, 13);
        comeInTurn(x, 0, 3, 4);
        drawInTurn(x, 10, 12);
        comeInTurn(x, 1, 2);
        drawInTurn(x, 4, 9);
        comeInTurn(x, 5);
        drawInTurn(x, 3, 0, 2);
        x.exchange(10, 4, 0, 2);
        x.exchange(12, 8, 4, 2);
        int[] want = {50, 448, 49, 13, 386, 448, 448, 448, 448, 14, 13, 448, 13, 448};
        for (int one = 0; one < 14; one++) {
            due("of(" + one + ", 3)", x.of(one, 3), want[one]);
        }
        due("EVENNESS", x.evenness(), 208);
        return x;
    }

    private static void drawInTurn(BenchComposer x, int... cases) {
        for (int one : cases) {
            x.draw(one);
        }
    }

    private static void comeInTurn(BenchComposer x, int... judges) {
        for (int judge : judges) {
            x.come(judge);
        }
    }

    private static int smoothByHand(BenchComposer x, int most) {
        int times = 0;
        while (times < most && x.better(0) != -1) {
            x.exchange(x.better(0), x.better(1), x.better(2), x.better(3));
            times++;
        }
        return times;
    }

    private static void smoothTillNone() {
        Doc.says("Promise 27", "BETTER is done, again and again, till there is none,");
        due("once", Courts.drawnAs("case 1;case 1;case 1;", 7, 7, 28).smooth(), 1);
        for (int seed = 0; seed < 30; seed++) {
            String text = "court " + seed + " 20 0 0 0;" + "judge 1;".repeat(7) + "case 1;".repeat(8);
            BenchComposer x = Courts.of(text);
            BenchComposer hand = Courts.of(text);
            x.drawAll();
            hand.drawAll();
            int times = smoothByHand(hand, 40);
            due("SEED " + seed, x.smooth(), times == 0 ? -1 : times);
            due("SEED " + seed + ", none is left", x.better(0), -1);
            for (int one = 0; one < 8; one++) {
                due("SEED " + seed + ", of(" + one + ", 3)", x.of(one, 3), hand.of(one, 3));
            }
        }
    }

    private static void smoothAtMost40() {
        Doc.says("Promise 27", "at most 40 times: how often.");
        BenchComposer x = veryUneven();
        BenchComposer hand = veryUneven();
        due("by hand", smoothByHand(hand, 40), 40);
        due("smooth()", x.smooth(), 40);
        due("EVENNESS behind forty", x.evenness(), hand.evenness());
        for (int one = 0; one < 14; one++) {
            due("of(" + one + ", 3)", x.of(one, 3), hand.of(one, 3));
        }
        Check.due("there is one yet", x.better(4) > 0, true);
        due("the rest", x.smooth(), 6);
        due("not once", x.smooth(), -1);
        due("each smooth() is undone whole", x.undo(), 9);
        due("each smooth() is undone whole", x.undo(), 8);
        due("EVENNESS", x.evenness(), 208);
    }

    private static void smoothNotOnce() {
        Doc.says("Promise 27", "NONE: not once.");
        due("no court", new BenchComposer().smooth(), -1);
        due("none is drawn", Courts.like(9, 14).smooth(), -1);
        BenchComposer x = Courts.drawnAs("case 1;case 1;", 7, 28);
        String before = Courts.seen(x);
        due("none is less", x.smooth(), -1);
        dueAlike("all stays", Courts.seen(x), before);
        BenchComposer heard = Courts.drawnAs("case 1;case 1;case 1;", 7, 7, 28);
        heard.hear(2);
        due("HEARD", heard.smooth(), -1);
    }

    // promises 28 and 29

    private static void sameTells() {
        Doc.says("Promise 28", "How many cases have just the BENCH now that they have ANEW");
        BenchComposer x = Courts.drawnAs("case 1;case 1;case 1;", 7, 7, 28);
        due("all", x.same(), 3);
        x.hear(1);
        due("HEARD or not", x.same(), 3);
        x.exchange(0, 0, 2, 3);
        due("one", x.same(), 1);
        x.undo();
        x.undo();
        x.undo();
        due("none is drawn", x.same(), 0);
        BenchComposer most = Courts.like(3, 14);
        due("none of fourteen", most.same(), 0);
        most.drawAll();
        due("fourteen", most.same(), 14);
        due("no court", new BenchComposer().same(), 0);
    }

    private static void sameNoneOfBoth() {
        Doc.says("Promise 28", "(none of both counts, too).");
        BenchComposer x = Courts.of(COURT + "judge 1;".repeat(3) + "case 1;case 1 not 0;case 1 not 1;");
        due("two have none of both", x.same(), 2);
        x.drawAll();
        due("all", x.same(), 3);
        x.leave(0);
        due("OPEN again", x.same(), 2);
        due("no judges", Courts.like(0, 14).same(), 14);
    }

    private static void anewTells() {
        Doc.says("Promise 29", "ANEW: the BENCH of a case (0: OPEN).");
        BenchComposer x = Courts.of(COURT + "judge 1;".repeat(3) + "case 1;case 1 not 0;case 1;");
        due("anew(0)", x.anew(0), 7);
        due("anew(1)", x.anew(1), 0);
        due("anew(2)", x.anew(2), 7);
        due("of another TEXT", Check.tell(x, COURT + "judge 1;judge 1;judge 1;judge 1;case 1 not 0;"), 6);
        due("anew(0)", x.anew(0), 14);
        due("anew(1)", x.anew(1), -1);
    }

    private static void anewNoSuch() {
        Doc.says("Promise 29", "NONE: no such one.");
        BenchComposer x = Courts.threeDrawn(1);
        due("anew(4)", x.anew(4), -1);
        for (int one : NO_SUCH) {
            due("anew(" + one + ")", x.anew(one), -1);
        }
        due("anew(14) of fourteen", Courts.like(3, 14).anew(14), -1);
        due("anew(13) of fourteen", Courts.like(3, 14).anew(13), 7);
    }

    // promise 30

    private static int changeBy(BenchComposer x, int call) {
        return switch (call) {
            case 0 -> x.draw(0);
            case 1 -> x.recuse(2, 2);
            case 2 -> x.leave(0);
            case 3 -> x.come(4);
            case 4 -> x.hear(2);
            case 5 -> x.exchange(0, 0, 2, 3);
            case 6 -> x.smooth();
            default -> x.drawAll();
        };
    }

    private static BenchComposer readyFor(int call) {
        BenchComposer x = Courts.drawnAs("case 1;case 1;case 1;", 7, 7, 28);
        if (call == 0 || call == 7) {
            x.undo();
            x.leave(3);
        }
        if (call == 3) {
            x.leave(4);
        }
        return x;
    }

    private static void undoEach() {
        Doc.says("Promise 30", "The latest draw(), recuse(), leave(), come(), hear(), exchange(), smooth()");
        for (int call = 0; call <= 7; call++) {
            BenchComposer x = readyFor(call);
            int kept = x.now(5);
            String before = Courts.seen(x);
            Check.due("call " + call + " is not refused", changeBy(x, call) != -1, true);
            due("call " + call + " can be undone", x.now(5), kept + 1);
            Check.due("call " + call + " changes something", Courts.seen(x).equals(before), false);
            due("call " + call + " is undone", x.undo(), kept);
            dueAlike("call " + call, Courts.seen(x), before);
        }
    }

    private static void undoNotOfNone() {
        Doc.says("Promise 30", "that was not NONE,");
        BenchComposer x = Courts.drawnAs("case 1;case 1;", 7, 28);
        x.leave(4);
        x.come(4);
        x.hear(0);
        int kept = x.now(5);
        due("draw(0)", x.draw(0), -1);
        due("recuse(0, 0)", x.recuse(0, 0), -1);
        due("leave(5)", x.leave(5), -1);
        due("come(4)", x.come(4), -1);
        due("hear(0)", x.hear(0), -1);
        due("exchange(0, 0, 1, 3)", x.exchange(0, 0, 1, 3), -1);
        due("smooth()", x.smooth(), -1);
        due("none of them is kept", x.now(5), kept);
        due("hear(0) is undone", x.undo(), kept - 1);
        due("SET", x.of(0, 2), 1);
        // Answers below 0 that are not NONE count.
        BenchComposer open = Courts.like(3, 1);
        open.draw(0);
        due("recuse(0, 0)", open.recuse(0, 0), -2);
        due("it is kept", open.now(5), 2);
    }

    private static void undoDrawAllOfNone() {
        Doc.says("Promise 30", "drawAll() that drew some is undone");
        BenchComposer x = Courts.like(3, 5);
        due("drawAll()", x.drawAll(), 5);
        due("it is one", x.now(5), 1);
        due("drawAll() of none", x.drawAll(), 0);
        due("that is not kept", x.now(5), 1);
        due("undo()", x.undo(), 0);
        due("all are OPEN", x.now(3), 0);
        x.draw(0);
        x.draw(1);
        x.draw(2);
        x.draw(3);
        due("drawAll() of one", x.drawAll(), 1);
        due("it is kept", x.now(5), 5);
        due("undo()", x.undo(), 4);
        due("OPEN", x.of(4, 2), 0);
    }

    private static void undoSeed() {
        Doc.says("Promise 30", "(SEED, too):");
        BenchComposer x = Courts.of("court 9999 20 0 0 0;" + "judge 1;".repeat(5) + "case 1;".repeat(3));
        int first = x.draw(1);
        int seed = x.now(2);
        x.drawAll();
        x.undo();
        due("SEED behind one", x.now(2), seed);
        x.undo();
        due("SEED as told", x.now(2), 9999);
        due("drawn alike", x.draw(1), first);
    }

    private static void undoTells() {
        Doc.says("Promise 30", "how many more can be");
        BenchComposer x = Courts.threeDrawn(1);
        for (int left = 2; left >= 0; left--) {
            due("undo()", x.undo(), left);
            due("now(5)", x.now(5), left);
            due("SET", x.now(3), left);
        }
        x.leave(0);
        due("one again", x.undo(), 0);
    }

    private static void undoTenAtMost() {
        Doc.says("Promise 30", "(10 at most are kept);");
        for (int changes = 9; changes <= 35; changes++) {
            BenchComposer x = Courts.like(3, 14);
            for (int i = 0; i < changes; i++) {
                due("a change", i < 14 ? x.draw(i) : i < 28 ? x.hear(i - 14) : i % 2 == 0 ? x.leave(0) : x.come(0),
                        i < 14 ? 7 : i < 28 ? i - 13 : 0);
            }
            int kept = Math.min(changes, 10);
            due("kept of " + changes, x.now(5), kept);
            for (int left = kept - 1; left >= 0; left--) {
                due("undo() of " + changes, x.undo(), left);
            }
            due("no more of " + changes, x.undo(), -1);
            due("SET", x.now(3) + x.now(4), Math.min(changes - kept, 14));
            due("HEARD", x.now(4), Math.max(changes - kept - 14, 0));
        }
    }

    private static void undoTenBehindRefused() {
        Doc.says("Promise 30", "(10 at most are kept);");
        BenchComposer x = Courts.like(3, 1);
        String before = Courts.seen(x);
        x.leave(2);
        x.leave(1);
        for (int i = 0; i < 4; i++) {
            x.leave(0);
            x.come(0);
        }
        due("now(5)", x.now(5), 10);
        due("draw(0), one is there", x.draw(0), -1);
        due("drawAll()", x.drawAll(), 0);
        due("smooth()", x.smooth(), -1);
        due("hear(0)", x.hear(0), -1);
        for (int left = 9; left >= 0; left--) {
            due("undo()", x.undo(), left);
        }
        dueAlike("none of the ten was lost", Courts.seen(x), before);
    }

    private static void undoNone() {
        Doc.says("Promise 30", "NONE: none is.");
        due("no court", new BenchComposer().undo(), -1);
        BenchComposer x = Courts.of(Courts.fiveJudges(1));
        due("nothing done", x.undo(), -1);
        x.draw(0);
        x.undo();
        String before = Courts.seen(x);
        due("what was undone is not done again", x.undo(), -1);
        dueAlike("all stays", Courts.seen(x), before);
    }
}
