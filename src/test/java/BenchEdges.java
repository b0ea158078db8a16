/** The edges of the document's sentences on benches, as they are told and not changed: a method a sentence. */
final class BenchEdges {
    private static final String TERMS = "Terms";
    private static final String COURT = Courts.COURT;
    private static final int MIN = Integer.MIN_VALUE;
    private static final int MAX = Integer.MAX_VALUE;

    private static final int[] NO_SUCH = Courts.NO_SUCH;
    /** No bench of five judges: none, too few, too many, a judge not told. */
    private static final int[] NO_BENCH = {0, 1, 3, 16, 24, 15, 30, 31, 35, 67, 448, 1 << 31 | 3, 7 << 29, -1, MIN,
        MAX};

    static final Runnable[] ALL = {
        BenchEdges::threeAsBits, BenchEdges::inOrder, BenchEdges::nobodyBarred, BenchEdges::nobodyAway,
        BenchEdges::somebodySenior, BenchEdges::presides, BenchEdges::presidesOfLikeOnes,
        BenchEdges::stages, BenchEdges::pairOfTwo, BenchEdges::loadOfWeights, BenchEdges::loadOfChairs,
        BenchEdges::tensionOfPairs, BenchEdges::tensionOfLoads, BenchEdges::withoutItsOwn,
        BenchEdges::leastTension, BenchEdges::fewerThanUnsure, BenchEdges::noOthers,
        BenchEdges::nowTells, BenchEdges::nowAnotherWhat, BenchEdges::judgeTells, BenchEdges::noSuchJudge,
        BenchEdges::judgeAnotherWhat, BenchEdges::caseTells, BenchEdges::caseWithoutBench, BenchEdges::noSuchCase,
        BenchEdges::caseAnotherWhat, BenchEdges::pairTells, BenchEdges::noTwoJudges, BenchEdges::spreadOfPairs,
        BenchEdges::spreadOfLoads, BenchEdges::spreadAnotherWhat, BenchEdges::fewerThanTwo,
        BenchEdges::lawfulTells, BenchEdges::lawfulNoCase, BenchEdges::benchTells, BenchEdges::benchNoneSuch,
        BenchEdges::rankTells, BenchEdges::rankNotOne, BenchEdges::tensionTells, BenchEdges::tensionNoCase,
        BenchEdges::tensionNoBench,
        BenchEdges::poolTells, BenchEdges::poolNoCase, BenchEdges::chancesTell, BenchEdges::chancesNoSuch,
        BenchEdges::worstTells, BenchEdges::worstOfNone, BenchEdges::worstNoCase
    };

    private BenchEdges() {
    }

    private static void due(String what, long got, long want) {
        Check.due(what, got, want);
    }

    private static boolean isListed(int[] all, int bench) {
        for (int one : all) {
            if (one == bench) {
                return true;
            }
        }
        return false;
    }

    // terms: benches

    private static void threeAsBits() {
        Doc.says(TERMS, "A BENCH is three judges, as bits;");
        BenchComposer x = Courts.threeDrawn(1);
        for (int bits = 0; bits < 128; bits++) {
            due("tension(3, " + bits + ") is told", x.tension(3, bits) >= 0 ? 1 : 0,
                    isListed(Courts.OF_FIVE, bits) ? 1 : 0);
        }
        due("judges 0, 1 and 2", Courts.like(3, 1).draw(0), 7);
        due("judges 6, 7 and 8", Courts.like(9, 1).rank(0, 448), 83);
    }

    private static void inOrder() {
        Doc.says(TERMS, "BENCHES in order: by the least judge, then by the next one, then by the third one, "
                + "the least first.");
        BenchComposer x = Courts.like(9, 1);
        int i = 0;
        for (int a = 0; a < 9; a++) {
            for (int b = a + 1; b < 9; b++) {
                for (int c = b + 1; c < 9; c++) {
                    int bench = (1 << a) + (1 << b) + (1 << c);
                    due("bench(0, " + i + ")", x.bench(0, i), bench);
                    due("rank(0, " + bench + ")", x.rank(0, bench), i);
                    i++;
                }
            }
        }
        due("bench(0, 84)", x.bench(0, 84), -1);
    }

    private static void nobodyBarred() {
        Doc.says(TERMS, "It is LAWFUL for a case if nobody of it is BARRED from that");
        BenchComposer x = Courts.of(COURT + "judge 1;".repeat(4) + "case 1 not 0;case 1;case 1 not 3;case 1 not 0 3;");
        due("not 0", x.lawful(0), 1);
        due("not 0", x.bench(0, 0), 14);
        due("from another case alone", x.lawful(1), 4);
        due("not 3", x.bench(2, 0), 7);
        due("two left", x.lawful(3), 0);
    }

    private static void nobodyAway() {
        Doc.says(TERMS, "or AWAY,");
        BenchComposer x = Courts.of(COURT + "judge 1;".repeat(4) + "case 1;case 1 not 0;");
        x.leave(3);
        due("without judge 3", x.lawful(0), 1);
        due("without judge 3", x.bench(0, 0), 7);
        due("BARRED one, AWAY another", x.lawful(1), 0);
        x.leave(0);
        due("two are there", x.lawful(0), 0);
        x.come(3);
        x.come(0);
        due("all are there", x.lawful(0), 4);
    }

    private static void somebodySenior() {
        Doc.says(TERMS, "and somebody is SENIOR (SENIORITY S at least).");
        BenchComposer x = Courts.of(COURT + "judge 49;judge 50;judge 51;judge 1;judge 49;senior 50;case 1;");
        due("all but 0 3 4", x.lawful(0), 9);
        due("just below", x.rank(0, 25), -1);
        due("just so senior", x.rank(0, 26), 7);
        due("more than that", x.rank(0, 28), 8);
        due("who is AWAY is not there", leaves(x, 1), 3);
        due("nobody senior is there", leaves(x, 2), 0);
    }

    private static int leaves(BenchComposer x, int judge) {
        x.leave(judge);
        return x.lawful(0);
    }

    private static int presiding(int a, int b, int c) {
        BenchComposer x = Courts.of(COURT + "judge " + a + ";judge " + b + ";judge " + c + ";case 1;");
        x.draw(0);
        return x.of(0, 4);
    }

    private static void presides() {
        Doc.says(TERMS, "The judge of the greatest SENIORITY PRESIDES,");
        due("the first", presiding(99, 98, 1), 0);
        due("the second", presiding(98, 99, 98), 1);
        due("the third", presiding(1, 2, 3), 2);
        due("by value, not by signs", presiding(9, 10, 8), 1);
    }

    private static void presidesOfLikeOnes() {
        Doc.says(TERMS, "PRESIDES, of like ones the least.");
        due("all alike", presiding(5, 5, 5), 0);
        due("the first two", presiding(5, 5, 4), 0);
        due("the last two", presiding(4, 5, 5), 1);
        due("the outer two", presiding(5, 4, 5), 0);
    }

    // terms: counts

    private static void stages() {
        Doc.says(TERMS, "A case is OPEN (0), SET (1: it has a BENCH), or HEARD (2).");
        BenchComposer x = Courts.like(3, 1);
        due("OPEN", x.of(0, 2), 0);
        x.draw(0);
        due("SET", x.of(0, 2), 1);
        due("its BENCH", x.of(0, 3), 7);
        x.hear(0);
        due("HEARD", x.of(0, 2), 2);
        x.undo();
        x.leave(0);
        due("OPEN again", x.of(0, 2), 0);
    }

    private static void pairOfTwo() {
        Doc.says(TERMS, "PAIR of two judges: on how many BENCHES of cases that are SET or HEARD both are.");
        BenchComposer x = Courts.threeDrawn(1);
        due("pair(1, 2), both SET", x.pair(1, 2), 2);
        x.hear(0);
        due("pair(1, 2), one HEARD", x.pair(1, 2), 2);
        due("pair(0, 3), never both", x.pair(0, 3), 0);
        // Cases 1 and 2 lose judge 3 and are OPEN: whoever else is there is barred from them.
        x.leave(3);
        due("pair(1, 2), one OPEN again", x.pair(1, 2), 1);
        due("pair(2, 3)", x.pair(2, 3), 0);
        BenchComposer most = Courts.like(3, 14);
        due("drawAll()", most.drawAll(), 14);
        due("on all fourteen", most.pair(0, 2), 14);
    }

    private static void loadOfWeights() {
        Doc.says(TERMS, "LOAD of a judge: of all such BENCHES that have the judge WEIGHTS together,");
        BenchComposer x = Courts.threeDrawn(1);
        int[] want = {6, 23, 21, 11, 2};
        for (int judge = 0; judge < 5; judge++) {
            due("LOAD of " + judge, x.judge(judge, 2), want[judge]);
        }
        x.hear(1);
        due("HEARD counts", x.judge(4, 2), 2);
        x.recuse(2, 3);
        due("OPEN does not", x.judge(3, 2), 2);
    }

    private static void loadOfChairs() {
        Doc.says(TERMS, "and CHAIR more for each of which the judge PRESIDES.");
        BenchComposer x = Courts.of("court 1 1 1 1 9;" + "judge 1;".repeat(3) + "case 9;".repeat(14));
        x.drawAll();
        due("who presides of fourteen", x.judge(0, 2), 14 * 18);
        due("who presides of none", x.judge(1, 2), 14 * 9);
        BenchComposer none = Courts.of("court 1 1 1 1 0;" + "judge 1;".repeat(3) + "case 9;");
        none.draw(0);
        due("CHAIR 0", none.judge(0, 2), 9);
    }

    /** Three judges, cases of weight 9, all but the last one drawn: TENSION of the bench for the last one. */
    private static int tensionOfLast(String evenLoadedChair, int cases) {
        BenchComposer x = Courts.of("court 1 1 " + evenLoadedChair + ";" + "judge 1;".repeat(3)
                + "case 9;".repeat(cases));
        for (int one = 0; one < cases - 1; one++) {
            x.draw(one);
        }
        return x.tension(cases - 1, 7);
    }

    private static void tensionOfPairs() {
        Doc.says(TERMS, "TENSION of a BENCH for a case: EVEN times the PAIRS of its three twos together,");
        due("nothing drawn", tensionOfLast("9 9 9", 1), 0);
        due("EVEN 1, one bench", tensionOfLast("1 0 9", 2), 3);
        due("EVEN 9, thirteen benches", tensionOfLast("9 0 9", 14), 9 * 3 * 13);
        due("EVEN 0", tensionOfLast("0 0 9", 14), 0);
        BenchComposer x = Courts.of("court 1 1 1 0 0;" + "judge 1;".repeat(6) + "case 1 not 3 4 5;case 1;");
        x.draw(0);
        due("one two of the three", x.tension(1, 0b001011), 1);
        due("no two of the three", x.tension(1, 0b011001), 0);
        due("not one of the three", x.tension(1, 0b111000), 0);
    }

    private static void tensionOfLoads() {
        Doc.says(TERMS, "and LOADED times the LOADS of its three together;");
        due("LOADED 1, one bench", tensionOfLast("0 1 0", 2), 27);
        due("LOADED 9, thirteen benches", tensionOfLast("0 9 9", 14), 9 * (13 * 27 + 13 * 9));
        due("both", tensionOfLast("2 3 4", 3), 2 * 3 * 2 + 3 * 2 * (27 + 4));
    }

    private static void withoutItsOwn() {
        Doc.says(TERMS, "all that without the BENCH that the case itself has.");
        BenchComposer x = Courts.of("court 1 1 1 1 1;" + "judge 1;".repeat(3) + "case 9;case 9;");
        x.draw(0);
        due("its own alone", x.tension(0, 7), 0);
        due("that of another", x.tension(1, 7), 3 + 28);
        x.draw(1);
        due("its own and another", x.tension(0, 7), 3 + 28);
        x.hear(0);
        due("its own, HEARD", x.tension(0, 7), 3 + 28);
        due("another, HEARD", x.tension(1, 7), 3 + 28);
    }

    // terms: pools

    private static void leastTension() {
        Doc.says(TERMS, "POOL of a case: of the BENCHES that are LAWFUL for it those of the least TENSION;");
        BenchComposer x = Courts.threeSixOne(1);
        due("all of the least, though more than UNSURE", x.pool(1), 3);
        due("their TENSION", x.worst(1), 0);
        due("the LAWFUL one alone", x.pool(0), 1);
        x.leave(4);
        // 0 1 3, 0 2 3, 1 2 3 have TENSION 1 by now.
        due("of those that are LAWFUL", x.pool(1), 3);
        due("their TENSION", x.worst(1), 1);
    }

    private static void fewerThanUnsure() {
        Doc.says(TERMS, "as long as these are fewer than UNSURE");
        for (int unsure = 1; unsure <= 9; unsure++) {
            due("pool(1), UNSURE " + unsure, Courts.threeSixOne(unsure).pool(1), unsure <= 3 ? 3 : 9);
            due("worst(1), UNSURE " + unsure, Courts.threeSixOne(unsure).worst(1), unsure <= 3 ? 0 : 1);
        }
        due("pool(1), UNSURE 10", Courts.threeSixOne(10).pool(1), 10);
        due("worst(1), UNSURE 10", Courts.threeSixOne(10).worst(1), 3);
    }

    private static void noOthers() {
        Doc.says(TERMS, "and there are others, those of the next one, too.");
        for (int unsure = 10; unsure <= 20; unsure++) {
            due("pool(1), UNSURE " + unsure, Courts.threeSixOne(unsure).pool(1), 10);
            due("pool(0), UNSURE " + unsure, Courts.threeSixOne(unsure).pool(0), 1);
        }
        BenchComposer none = Courts.of("court 1 20 1 1 1;judge 1;judge 1;case 1;");
        due("none at all", none.pool(0), 0);
    }

    // promises 6 to 10

    private static void nowTells() {
        Doc.says("Promise 6", "0 judges, 1 cases, 2 SEED, 3 cases that are SET, 4 HEARD, 5 what can be undone, "
                + "6 bytes of the tape.");
        BenchComposer x = Courts.threeDrawn(1);
        x.hear(0);
        x.feed(0, 0, 0, 0, 0);
        int seed = ((5 * 1103515245 + 12345) * 1103515245 + 12345) * 1103515245 + 12345;
        int[] want = {5, 4, seed, 2, 1, 4, 20};
        for (int what = 0; what <= 6; what++) {
            due("now(" + what + ")", x.now(what), want[what]);
        }
        BenchComposer full = Courts.like(9, 14);
        full.drawAll();
        due("judges", full.now(0), 9);
        due("cases", full.now(1), 14);
        due("SET", full.now(3), 14);
        for (int one = 0; one < 14; one++) {
            full.hear(one);
        }
        due("SET", full.now(3), 0);
        due("HEARD", full.now(4), 14);
        due("what can be undone", full.now(5), 10);
    }

    private static void nowAnotherWhat() {
        Doc.says("Promise 6", "NONE for another what.");
        BenchComposer x = Courts.threeDrawn(1);
        int[] others = {-1, 7, 8, MIN, MAX};
        for (int what : others) {
            due("now(" + what + ")", x.now(what), -1);
            due("of none: now(" + what + ")", new BenchComposer().now(what), -1);
        }
    }

    private static void judgeTells() {
        Doc.says("Promise 7", "Of a judge 0 SENIORITY, 1 1 if AWAY, 2 LOAD, 3 on how many BENCHES, "
                + "4 of how many that one PRESIDES, 5 BARRED from how many cases.");
        BenchComposer x = Courts.threeDrawn(1);
        x.hear(2);
        x.leave(4);
        // Case 1 is OPEN again, as nobody can come for judge 4.
        int[][] want = {{10, 0, 6, 1, 0, 2}, {30, 0, 23, 2, 2, 1}, {30, 0, 15, 2, 0, 0}, {20, 0, 9, 1, 0, 1},
            {5, 1, 0, 0, 0, 2}};
        for (int judge = 0; judge < 5; judge++) {
            for (int what = 0; what <= 5; what++) {
                due("judge(" + judge + ", " + what + ")", x.judge(judge, what), want[judge][what]);
            }
        }
        BenchComposer most = Courts.of(COURT + "judge 1;".repeat(4) + "case 1 not 3;".repeat(14));
        most.drawAll();
        due("on fourteen", most.judge(1, 3), 14);
        due("presides of fourteen", most.judge(0, 4), 14);
        due("BARRED from fourteen", most.judge(3, 5), 14);
    }

    private static void noSuchJudge() {
        Doc.says("Promise 7", "NoSuchElementException: no such one,");
        BenchComposer x = Courts.threeDrawn(1);
        for (int judge : NO_SUCH) {
            for (int what = 0; what <= 5; what++) {
                Check.judgeThrows(x, judge, what);
            }
        }
        Check.judgeThrows(Courts.of(COURT), 0, 0);
        Check.judgeThrows(Courts.like(9, 0), 9, 0);
    }

    private static void judgeAnotherWhat() {
        Doc.says("Promise 7", "another what.");
        BenchComposer x = Courts.threeDrawn(1);
        int[] others = {-1, 6, 7, MIN, MAX};
        for (int what : others) {
            Check.judgeThrows(x, 0, what);
            Check.judgeThrows(x, 4, what);
            Check.judgeThrows(x, 5, what);
        }
    }

    private static void caseTells() {
        Doc.says("Promise 8", "Of a case 0 WEIGHT, 1 who is BARRED (bits), 2 0 to 2 as told, 3 its BENCH");
        BenchComposer x = Courts.threeDrawn(1);
        x.hear(2);
        int[][] want = {{6, 24, 1, 7}, {2, 3, 1, 28}, {9, 17, 2, 14}, {1, 0, 0, 0}};
        for (int one = 0; one < 4; one++) {
            for (int what = 0; what <= 3; what++) {
                due("of(" + one + ", " + what + ")", x.of(one, what), want[one][what]);
            }
        }
        BenchComposer nine = Courts.of(COURT + "judge 1;".repeat(9) + "case 9 not 0 1 2 3 4 5 6 7 8;case 1 not 8;");
        due("all nine BARRED", nine.of(0, 1), 511);
        due("the ninth BARRED", nine.of(1, 1), 256);
    }

    private static void caseWithoutBench() {
        Doc.says("Promise 8", "(0 without), 4 who PRESIDES (NONE without).");
        BenchComposer x = Courts.threeDrawn(1);
        due("BENCH of an OPEN case", x.of(3, 3), 0);
        due("who PRESIDES, OPEN", x.of(3, 4), -1);
        due("who PRESIDES, SET", x.of(0, 4), 1);
        x.hear(1);
        due("who PRESIDES, HEARD", x.of(1, 4), 2);
        x.recuse(0, 1);
        due("BENCH of one that is OPEN again", x.of(0, 3), 0);
        due("who PRESIDES, OPEN again", x.of(0, 4), -1);
    }

    private static void noSuchCase() {
        Doc.says("Promise 8", "NoSuchElementException: no such one,");
        BenchComposer x = Courts.threeDrawn(1);
        Check.ofThrows(x, 4, 0);
        for (int one : NO_SUCH) {
            for (int what = 0; what <= 4; what++) {
                Check.ofThrows(x, one, what);
            }
        }
        Check.ofThrows(Courts.of(COURT), 0, 0);
        Check.ofThrows(Courts.like(0, 14), 14, 0);
    }

    private static void caseAnotherWhat() {
        Doc.says("Promise 8", "another what.");
        BenchComposer x = Courts.threeDrawn(1);
        int[] others = {-1, 5, 6, MIN, MAX};
        for (int what : others) {
            Check.ofThrows(x, 0, what);
            Check.ofThrows(x, 3, what);
            Check.ofThrows(x, 4, what);
        }
    }

    private static void pairTells() {
        Doc.says("Promise 9", "PAIR;");
        BenchComposer x = Courts.threeDrawn(1);
        int[][] want = {{1, 1, 0, 0}, {2, 1, 0}, {2, 1}, {1}};
        for (int a = 0; a < 4; a++) {
            for (int b = a + 1; b < 5; b++) {
                due("pair(" + a + ", " + b + ")", x.pair(a, b), want[a][b - a - 1]);
                due("pair(" + b + ", " + a + ")", x.pair(b, a), want[a][b - a - 1]);
            }
        }
        x.leave(4);
        due("AWAY or not", x.pair(4, 0), 0);
    }

    private static void noTwoJudges() {
        Doc.says("Promise 9", "NONE: no two such judges.");
        BenchComposer x = Courts.threeDrawn(1);
        for (int judge = 0; judge < 5; judge++) {
            due("pair(" + judge + ", " + judge + ")", x.pair(judge, judge), -1);
        }
        for (int other : NO_SUCH) {
            due("pair(0, " + other + ")", x.pair(0, other), -1);
            due("pair(" + other + ", 4)", x.pair(other, 4), -1);
            due("pair(" + other + ", " + other + ")", x.pair(other, other), -1);
        }
        due("one judge", Courts.like(1, 1).pair(0, 0), -1);
        due("two judges", Courts.like(2, 1).pair(0, 1), 0);
    }

    private static void spreadOfPairs() {
        Doc.says("Promise 10", "The greatest less the least: of all PAIRS (what 0),");
        due("nothing drawn", Courts.of(Courts.fiveJudges(1)).spread(0), 0);
        due("2 and 0", Courts.threeDrawn(1).spread(0), 2);
        BenchComposer first = Courts.of(COURT + "judge 1;".repeat(9) + "case 1 not 3 4 5 6 7 8;".repeat(2));
        first.drawAll();
        due("of the first judges, too", first.spread(0), 2);
        BenchComposer x = Courts.like(3, 14);
        x.drawAll();
        due("14 and 14", x.spread(0), 0);
        BenchComposer last = Courts.of(COURT + "judge 1;".repeat(9) + "case 1 not 0 1 2 3 4 5;".repeat(2));
        last.drawAll();
        due("of the last judges, too", last.spread(0), 2);
    }

    private static void spreadOfLoads() {
        Doc.says("Promise 10", "LOADS (1; AWAY or not).");
        BenchComposer x = Courts.threeDrawn(1);
        due("23 and 2", x.spread(1), 21);
        x.leave(4);
        due("23 and 0 of one AWAY", x.spread(1), 23);
        BenchComposer most = Courts.threeDrawn(1);
        most.hear(0);
        most.hear(2);
        most.leave(1);
        // The HEARD benches stay, and so does the LOAD of 23.
        due("23 of one AWAY and 2", most.spread(1), 21);
        BenchComposer three = Courts.of("court 1 1 1 1 0;" + "judge 1;".repeat(3) + "case 9;");
        three.draw(0);
        due("9 and 9", three.spread(1), 0);
        BenchComposer first = Courts.of("court 1 1 1 1 0;" + "judge 1;".repeat(4) + "case 9 not 0;case 9;");
        first.draw(0);
        due("judge 0 has the least", first.spread(1), 9);
        BenchComposer chair = Courts.of("court 1 1 1 1 7;" + "judge 1;".repeat(3) + "case 9;");
        chair.draw(0);
        due("judge 0 has the greatest", chair.spread(1), 7);
    }

    private static void spreadAnotherWhat() {
        Doc.says("Promise 10", "NONE: another what,");
        BenchComposer x = Courts.threeDrawn(1);
        int[] others = {-1, 2, 3, MIN, MAX};
        for (int what : others) {
            due("spread(" + what + ")", x.spread(what), -1);
        }
    }

    private static void fewerThanTwo() {
        Doc.says("Promise 10", "fewer than two judges.");
        for (int what = 0; what <= 1; what++) {
            due("no court", new BenchComposer().spread(what), -1);
            due("no judge", Courts.like(0, 1).spread(what), -1);
            due("one judge", Courts.like(1, 1).spread(what), -1);
            due("two judges", Courts.like(2, 1).spread(what), 0);
        }
    }

    // promises 11 to 14

    private static void lawfulTells() {
        Doc.says("Promise 11", "How many BENCHES are LAWFUL for a case;");
        int[] want = {0, 0, 0, 1, 4, 10, 20, 35, 56, 84};
        for (int judges = 0; judges <= 9; judges++) {
            due("of " + judges + " judges", Courts.like(judges, 1).lawful(0), want[judges]);
        }
        BenchComposer x = Courts.threeDrawn(1);
        due("a SET case", x.lawful(0), 1);
        x.hear(0);
        due("a HEARD case", x.lawful(0), 1);
        due("an OPEN case", x.lawful(3), 10);
    }

    private static void lawfulNoCase() {
        Doc.says("Promise 11", "NONE: no such one.");
        BenchComposer x = Courts.threeDrawn(1);
        due("lawful(4)", x.lawful(4), -1);
        for (int one : NO_SUCH) {
            due("lawful(" + one + ")", x.lawful(one), -1);
        }
        due("lawful(14) of fourteen", Courts.like(3, 14).lawful(14), -1);
        due("lawful(13) of fourteen", Courts.like(3, 14).lawful(13), 1);
    }

    private static void benchTells() {
        Doc.says("Promise 12", "The i-th of these (from 0).");
        BenchComposer x = Courts.threeDrawn(1);
        for (int i = 0; i < 10; i++) {
            due("bench(3, " + i + ")", x.bench(3, i), Courts.OF_FIVE[i]);
        }
        due("bench(1, 0)", x.bench(1, 0), 28);
    }

    private static void benchNoneSuch() {
        Doc.says("Promise 12", "NONE: none such.");
        BenchComposer x = Courts.threeDrawn(1);
        int[] others = {-1, 10, 11, 84, MIN, MAX};
        for (int i : others) {
            due("bench(3, " + i + ")", x.bench(3, i), -1);
        }
        // The list of another case, asked for ahead, was longer.
        due("bench(0, 1)", x.bench(0, 1), -1);
        due("bench(4, 0)", x.bench(4, 0), -1);
        for (int one : NO_SUCH) {
            due("bench(" + one + ", 0)", x.bench(one, 0), -1);
        }
        due("bench(0, 0) of two judges", Courts.like(2, 1).bench(0, 0), -1);
        due("bench(0, 84) of nine judges", Courts.like(9, 1).bench(0, 84), -1);
    }

    private static void rankTells() {
        Doc.says("Promise 13", "How many of these are ahead of a BENCH;");
        BenchComposer x = Courts.threeDrawn(1);
        for (int i = 0; i < 10; i++) {
            due("rank(3, " + Courts.OF_FIVE[i] + ")", x.rank(3, Courts.OF_FIVE[i]), i);
        }
        due("rank(1, 28)", x.rank(1, 28), 0);
        x.leave(0);
        due("rank(3, 28), 0 AWAY", x.rank(3, 28), 3);
    }

    private static void rankNotOne() {
        Doc.says("Promise 13", "NONE: it is not one of them.");
        BenchComposer x = Courts.threeDrawn(1);
        for (int bench : NO_BENCH) {
            due("rank(3, " + bench + ")", x.rank(3, bench), -1);
        }
        due("not LAWFUL for this one", x.rank(0, 28), -1);
        due("rank(4, 7)", x.rank(4, 7), -1);
        for (int one : NO_SUCH) {
            due("rank(" + one + ", 7)", x.rank(one, 7), -1);
        }
        x.leave(0);
        due("one of it AWAY", x.rank(3, 7), -1);
        due("of two judges", Courts.like(2, 1).rank(0, 7), -1);
    }

    private static void tensionTells() {
        Doc.says("Promise 14", "TENSION of a BENCH (LAWFUL or not) for a case.");
        BenchComposer x = Courts.threeDrawn(1);
        int[] want = {158, 124, 95, 120, 91, 59, 175, 144, 112, 110};
        for (int i = 0; i < 10; i++) {
            due("tension(3, " + Courts.OF_FIVE[i] + ")", x.tension(3, Courts.OF_FIVE[i]), want[i]);
        }
        // Case 0 bars judges 3 and 4; without its bench LOADS are 0 13 15 11 2, and PAIRS of 1 3 and 3 4 are 1.
        due("BARRED", x.tension(0, 26), 2 * (1 + 0 + 1) + 3 * (13 + 11 + 2));
        BenchComposer none = Courts.of("court 1 1 1 1 1;judge 1;judge 1;judge 1;senior 2;case 1;");
        due("nobody SENIOR", none.tension(0, 7), 0);
        none.leave(2);
        due("AWAY", none.tension(0, 7), 0);
    }

    private static void tensionNoCase() {
        Doc.says("Promise 14", "NONE: no such case,");
        BenchComposer x = Courts.threeDrawn(1);
        due("tension(4, 7)", x.tension(4, 7), -1);
        for (int one : NO_SUCH) {
            due("tension(" + one + ", 7)", x.tension(one, 7), -1);
        }
    }

    private static void tensionNoBench() {
        Doc.says("Promise 14", "no BENCH.");
        BenchComposer x = Courts.threeDrawn(1);
        for (int bench : NO_BENCH) {
            due("tension(3, " + bench + ")", x.tension(3, bench), -1);
        }
        due("of two judges", Courts.like(2, 1).tension(0, 7), -1);
        due("a tenth judge", Courts.like(9, 1).tension(0, 512 + 3), -1);
        due("the ninth judge", Courts.like(9, 1).tension(0, 256 + 3), 0);
    }

    // promises 15 to 17

    private static void poolTells() {
        Doc.says("Promise 15", "POOL of a case, how many;");
        due("OPEN", Courts.threeSixOne(4).pool(1), 9);
        due("SET", Courts.threeSixOne(4).pool(0), 1);
        BenchComposer x = Courts.threeSixOne(4);
        x.draw(1);
        due("SET, without its own bench", x.pool(1), 9);
        x.hear(1);
        due("HEARD", x.pool(1), 9);
        due("none LAWFUL", Courts.like(2, 1).pool(0), 0);
        due("all 84", Courts.like(9, 1).pool(0), 84);
    }

    private static void poolNoCase() {
        Doc.says("Promise 15", "NONE: no such one.");
        BenchComposer x = Courts.threeDrawn(1);
        due("pool(4)", x.pool(4), -1);
        for (int one : NO_SUCH) {
            due("pool(" + one + ")", x.pool(one), -1);
        }
    }

    private static void chancesTell() {
        Doc.says("Promise 16", "How many of POOL have a judge;");
        // 0 3 4, 1 3 4, 2 3 4; then all but 0 1 2.
        int[][] want = {{1, 1, 1, 3, 3}, {5, 5, 5, 6, 6}, {6, 6, 6, 6, 6}};
        int[] unsure = {3, 9, 10};
        for (int i = 0; i < 3; i++) {
            BenchComposer x = Courts.threeSixOne(unsure[i]);
            for (int judge = 0; judge < 5; judge++) {
                due("chances(1, " + judge + "), UNSURE " + unsure[i], x.chances(1, judge), want[i][judge]);
            }
        }
        BenchComposer x = Courts.threeSixOne(3);
        due("BARRED", x.chances(0, 4), 0);
        x.leave(4);
        due("AWAY", x.chances(1, 4), 0);
        due("none LAWFUL", Courts.like(2, 1).chances(0, 0), 0);
        BenchComposer nine = Courts.of(COURT + "judge 1;".repeat(9) + "case 1;case 1 not 0 1 2;");
        for (int judge = 0; judge < 9; judge++) {
            due("chances(0, " + judge + ") of 84", nine.chances(0, judge), 28);
            // Of the 20 benches of six; the 84 were listed ahead of them.
            due("chances(1, " + judge + ") of 20", nine.chances(1, judge), judge < 3 ? 0 : 10);
        }
    }

    private static void chancesNoSuch() {
        Doc.says("Promise 16", "NONE: no such ones.");
        BenchComposer x = Courts.threeDrawn(1);
        due("chances(4, 0)", x.chances(4, 0), -1);
        for (int other : NO_SUCH) {
            due("chances(" + other + ", 0)", x.chances(other, 0), -1);
            due("chances(3, " + other + ")", x.chances(3, other), -1);
            due("chances(" + other + ", " + other + ")", x.chances(other, other), -1);
        }
        due("none LAWFUL, no such judge", Courts.like(2, 1).chances(0, 2), -1);
    }

    private static void worstTells() {
        Doc.says("Promise 17", "The greatest TENSION in POOL;");
        due("of the least alone", Courts.threeSixOne(3).worst(1), 0);
        due("of the next one", Courts.threeSixOne(4).worst(1), 1);
        due("of all", Courts.threeSixOne(20).worst(1), 3);
        due("of a SET case, without its own bench", Courts.threeDrawn(1).worst(2), 76);
    }

    private static void worstOfNone() {
        Doc.says("Promise 17", "NONE: it has none,");
        due("two judges", Courts.like(2, 1).worst(0), -1);
        BenchComposer x = Courts.threeSixOne(3);
        x.leave(0);
        due("one of three AWAY", x.worst(0), -1);
        due("others can", x.worst(1), 0);
    }

    private static void worstNoCase() {
        Doc.says("Promise 17", "no such case.");
        BenchComposer x = Courts.threeDrawn(1);
        due("worst(4)", x.worst(4), -1);
        for (int one : NO_SUCH) {
            due("worst(" + one + ")", x.worst(one), -1);
        }
    }
}
