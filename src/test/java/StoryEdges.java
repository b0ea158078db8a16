import java.lang.reflect.Method;

/** 'What it is', by what the calls tell of one another: a method a part of its sentences. */
final class StoryEdges {
    private static final String STORY = "What it is";
    private static final int EVEN = 3;
    private static final int LOADED = 2;
    private static final int NINE = 9;
    private static final int FOURTEEN = 14;
    private static final int[] SENIORITIES = {40, 25, 61, 25, 70, 12, 33, 58, 9};
    private static final int[] WEIGHTS = {9, 3, 5, 5, 1, 8, 4, 7, 2, 6, 5, 3, 9, 4};
    private static final int[] BARRED = {0, 20, 0, 128, 0, 0, 0, 144, 0, 4, 0, 0, 256, 0};

    static final Runnable[] ALL = {
        StoryEdges::benchesOfThree, StoryEdges::toldAsAText, StoryEdges::listedAndRanked, StoryEdges::howTense,
        StoryEdges::drawnFromThePool, StoryEdges::noneForeseen, StoryEdges::whoPresides,
        StoryEdges::recusalsRepaired, StoryEdges::absencesRepaired, StoryEdges::casesHeard, StoryEdges::howEven,
        StoryEdges::exchangesMakeEven, StoryEdges::theSeedAlone, StoryEdges::laterCalls
    };

    private StoryEdges() {
    }

    private static void due(String what, long got, long want) {
        Check.due(what, got, want);
    }

    private static boolean has(int bits, int judge) {
        return (bits >> judge & 1) != 0;
    }

    private static BenchComposer large(int seed) {
        StringBuilder text = new StringBuilder("court " + seed + " 5 " + EVEN + " " + LOADED + " 4;senior 55;");
        for (int seniority : SENIORITIES) {
            text.append("judge ").append(seniority).append(';');
        }
        for (int one = 0; one < FOURTEEN; one++) {
            text.append("case ").append(WEIGHTS[one]).append(BARRED[one] == 0 ? "" : " not");
            for (int judge = 0; judge < NINE; judge++) {
                text.append(has(BARRED[one], judge) ? " " + judge : "");
            }
            text.append(';');
        }
        return Courts.of(text.toString());
    }

    /** The first so many of its cases have a bench. */
    private static BenchComposer drawn(int seed, int cases) {
        BenchComposer x = large(seed);
        for (int one = 0; one < cases; one++) {
            x.draw(one);
        }
        return x;
    }

    private static void benchesOfThree() {
        Doc.says(STORY, "A court that composes benches of three:");
        for (int seed = 0; seed < 20; seed++) {
            BenchComposer x = large(seed);
            due("all have one", x.drawAll(), FOURTEEN);
            for (int one = 0; one < FOURTEEN; one++) {
                due("SEED " + seed + ", judges of " + one, Integer.bitCount(x.of(one, 3)), 3);
                Check.due("SEED " + seed + ", it is LAWFUL", x.rank(one, x.of(one, 3)) >= 0, true);
            }
        }
    }

    private static void toldAsAText() {
        Doc.says(STORY, "judges by seniority, cases by weight and who is barred from them, told as a text;");
        BenchComposer x = large(1);
        due("judges", x.now(0), NINE);
        due("cases", x.now(1), FOURTEEN);
        for (int judge = 0; judge < NINE; judge++) {
            due("SENIORITY of " + judge, x.judge(judge, 0), SENIORITIES[judge]);
        }
        for (int one = 0; one < FOURTEEN; one++) {
            due("WEIGHT of " + one, x.of(one, 0), WEIGHTS[one]);
            due("who is BARRED from " + one, x.of(one, 1), BARRED[one]);
        }
    }

    private static void listedAndRanked() {
        Doc.says(STORY, "which benches are lawful for a case, listed, ranked;");
        BenchComposer x = drawn(2, 7);
        x.leave(3);
        for (int one = 0; one < FOURTEEN; one++) {
            int ranked = 0;
            for (int bits = 0; bits < 1024; bits++) {
                ranked += x.rank(one, bits) >= 0 ? 1 : 0;
            }
            due("ranked for " + one, ranked, x.lawful(one));
            for (int i = 0; i < x.lawful(one); i++) {
                due("rank of what is listed at " + i, x.rank(one, x.bench(one, i)), i);
                due("nobody BARRED or AWAY", x.bench(one, i) & (x.of(one, 1) | 8), 0);
                Check.due("2, 4 or 7 is SENIOR", (x.bench(one, i) & 148) != 0, true);
            }
            due("none behind", x.bench(one, x.lawful(one)), -1);
        }
    }

    private static void howTense() {
        Doc.says(STORY, "how tense each would be by pairs that sat together and loads,");
        BenchComposer x = drawn(3, 9);
        x.hear(2);
        for (int one = 9; one < FOURTEEN; one++) {
            for (int a = 0; a < NINE; a++) {
                for (int b = a + 1; b < NINE; b++) {
                    for (int c = b + 1; c < NINE; c++) {
                        int pairs = x.pair(a, b) + x.pair(a, c) + x.pair(b, c);
                        int loads = x.judge(a, 2) + x.judge(b, 2) + x.judge(c, 2);
                        due("of " + a + " " + b + " " + c + " for " + one, x.tension(one, 1 << a | 1 << b | 1 << c),
                                EVEN * pairs + LOADED * loads);
                    }
                }
            }
        }
    }

    private static int listedUpTo(BenchComposer x, int one, int height) {
        int count = 0;
        for (int i = 0; i < x.lawful(one); i++) {
            count += x.tension(one, x.bench(one, i)) <= height ? 1 : 0;
        }
        return count;
    }

    private static void drawnFromThePool() {
        Doc.says(STORY, "the pool from which one is drawn");
        for (int seed = 0; seed < 10; seed++) {
            BenchComposer x = large(seed);
            for (int one = 0; one < FOURTEEN; one++) {
                int worst = x.worst(one);
                int pool = x.pool(one);
                int chances = 0;
                for (int judge = 0; judge < NINE; judge++) {
                    chances += x.chances(one, judge);
                }
                due("three judges each", chances, 3 * pool);
                due("no tenser than the worst", listedUpTo(x, one, worst), pool);
                Check.due("as many as are wanted", pool >= Math.min(5, x.lawful(one)), true);
                Check.due("not more than that without the worst", listedUpTo(x, one, worst - 1) < 5, true);
                Check.due("one of them is drawn", x.tension(one, x.draw(one)) <= worst, true);
            }
        }
    }

    private static void noneForeseen() {
        Doc.says(STORY, "is drawn by a seed so that none can be foreseen;");
        int[] times = new int[512];
        for (int seed = 0; seed < 10000; seed += 9) {
            BenchComposer x = Courts.of("court " + seed + " 20 1 1 1;" + "judge 1;".repeat(5) + "case 1;");
            times[x.draw(0)]++;
        }
        // 1,112 seeds, ten benches: some 111 each.
        for (int bench : Courts.OF_FIVE) {
            Check.due("bench " + bench + " is drawn " + times[bench] + " times", times[bench] > 60, true);
        }
    }

    private static void whoPresides() {
        Doc.says(STORY, "who presides;");
        BenchComposer x = drawn(5, FOURTEEN);
        int together = 0;
        for (int one = 0; one < FOURTEEN; one++) {
            int first = x.of(one, 4);
            Check.due("one of the bench of " + one, has(x.of(one, 3), first), true);
            for (int judge = 0; judge < NINE; judge++) {
                Check.due("nobody of it is more SENIOR", has(x.of(one, 3), judge)
                        && x.judge(judge, 0) > x.judge(first, 0), false);
            }
        }
        for (int judge = 0; judge < NINE; judge++) {
            together += x.judge(judge, 4);
        }
        due("one each", together, FOURTEEN);
    }

    /** Who is to come, by what tension() and rank() tell ahead of it; -2: nobody. */
    private static int leastTense(BenchComposer x, int one, int goer) {
        int comer = -2;
        int least = Integer.MAX_VALUE;
        for (int judge = 0; judge < NINE; judge++) {
            int bench = x.of(one, 3) & ~(1 << goer) | 1 << judge;
            if (!has(x.of(one, 3), judge) && x.rank(one, bench) >= 0 && x.tension(one, bench) < least) {
                comer = judge;
                least = x.tension(one, bench);
            }
        }
        return comer;
    }

    private static void recusalsRepaired() {
        Doc.says(STORY, "recusals and absences repaired by whoever makes it least tense;");
        for (int seed = 0; seed < 10; seed++) {
            BenchComposer x = drawn(seed, FOURTEEN);
            for (int round = 0; round < 6; round++) {
                for (int one = 0; one < FOURTEEN; one++) {
                    int goer = (one + round) % NINE;
                    if (has(x.of(one, 3), goer)) {
                        int comer = leastTense(x, one, goer);
                        due("SEED " + seed + ", recuse(" + one + ", " + goer + ")", x.recuse(one, goer), comer);
                    }
                }
            }
        }
    }

    private static void absencesRepaired() {
        Doc.says(STORY, "absences repaired by whoever makes it least tense;");
        int looked = 0;
        for (int seed = 0; seed < 60; seed++) {
            for (int goer = 0; goer < NINE; goer++) {
                // With one case to be repaired alone, all is known ahead of it.
                BenchComposer x = drawn(seed, 3);
                if (x.judge(goer, 3) == 1) {
                    int one = has(x.of(0, 3), goer) ? 0 : has(x.of(1, 3), goer) ? 1 : 2;
                    int comer = leastTense(x, one, goer);
                    int staying = x.of(one, 3) & ~(1 << goer);
                    due("leave(" + goer + ")", x.leave(goer), comer == -2 ? 0 : 1);
                    due("the bench of " + one, x.of(one, 3), comer == -2 ? 0 : staying | 1 << comer);
                    looked++;
                }
            }
        }
        Check.due("often enough: " + looked, looked > 100, true);
    }

    private static void casesHeard() {
        Doc.says(STORY, "cases heard;");
        BenchComposer x = drawn(6, FOURTEEN);
        for (int one = 0; one < FOURTEEN; one++) {
            int bench = x.of(one, 3);
            due("hear(" + one + ")", x.hear(one), one + 1);
            due("its bench stays", x.of(one, 3), bench);
            for (int judge = 0; judge < NINE; judge++) {
                due("nobody is RECUSED from it", x.recuse(one, judge), -1);
            }
        }
        due("none is SET", x.now(3), 0);
    }

    private static void howEven() {
        Doc.says(STORY, "how even pairs and loads are,");
        for (int seed = 0; seed < 10; seed++) {
            BenchComposer x = drawn(seed, 8 + seed % 7);
            int most = 0;
            int least = FOURTEEN;
            int even = 0;
            int heaviest = 0;
            int lightest = Integer.MAX_VALUE;
            for (int a = 0; a < NINE; a++) {
                heaviest = Math.max(heaviest, x.judge(a, 2));
                lightest = Math.min(lightest, x.judge(a, 2));
                for (int b = a + 1; b < NINE; b++) {
                    most = Math.max(most, x.pair(a, b));
                    least = Math.min(least, x.pair(a, b));
                    even += x.pair(a, b) * x.pair(a, b);
                }
            }
            due("SEED " + seed + ", spread(0)", x.spread(0), most - least);
            due("SEED " + seed + ", spread(1)", x.spread(1), heaviest - lightest);
            due("SEED " + seed + ", evenness()", x.evenness(), even);
        }
    }

    private static void exchangesMakeEven() {
        Doc.says(STORY, "exchanges of two judges that make pairs more even;");
        int done = 0;
        for (int seed = 0; seed < 20; seed++) {
            BenchComposer x = drawn(seed, FOURTEEN);
            int before = x.evenness();
            int gain = x.better(4);
            if (gain != -1) {
                Check.due("it is a gain", gain > 0, true);
                due("by so much", x.exchange(x.better(0), x.better(1), x.better(2), x.better(3)), before - gain);
                x.undo();
                int times = x.smooth();
                Check.due("two less each time at least", x.evenness() <= before - 2 * times, true);
                done++;
            }
            for (int what = 0; what <= 4; what++) {
                due("none is left", x.better(what), -1);
            }
            for (int one = 0; one < FOURTEEN; one++) {
                Check.due("LAWFUL yet", x.rank(one, x.of(one, 3)) >= 0, true);
            }
        }
        Check.due("often enough: " + done, done > 10, true);
    }

    private static void theSeedAlone() {
        Doc.says(STORY, "whether the seed alone would give the same benches anew.");
        for (int seed = 0; seed < 20; seed++) {
            BenchComposer x = large(seed);
            int none = x.same();
            x.drawAll();
            due("SEED " + seed + ": drawn by the seed alone", x.same(), FOURTEEN);
            due("SEED " + seed + ": none is drawn", none, 0);
            int one = seed % FOURTEEN;
            int bench = x.of(one, 3);
            due("SEED " + seed + ", anew(" + one + ")", x.anew(one), bench);
            x.recuse(one, x.of(one, 4));
            due("SEED " + seed + ": one by hand", x.same(), FOURTEEN - 1);
            due("SEED " + seed + ": ANEW as ahead", x.anew(one), bench);
        }
    }

    /** The answers are free behind the 512th; rule 7 of LANGUAGE.md holds all the same. */
    private static void laterCalls() {
        Doc.says(STORY, "what later calls answer is free.");
        int[] arguments = {0, 1, 2, 8, 9, 13, 14, -1, Integer.MIN_VALUE, Integer.MAX_VALUE};
        BenchComposer x = large(7);
        int turn = 0;
        for (int calls = 0; calls < 2000; calls++) {
            for (Method method : Calls.ALL) {
                Object[] given = new Object[method.getParameterCount()];
                for (int i = 0; i < given.length; i++) {
                    turn = turn * 31 + 7 & 0xffff;
                    given[i] = arguments[turn / 7 % arguments.length];
                }
                Check.due(Calls.told(method, given) + " throws nothing else", Calls.isAnswered(x, method, given), true);
            }
        }
    }
}
