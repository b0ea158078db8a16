/** Courts that several tests begin with. */
final class Courts {
    static final String COURT = "court 1 1 1 1 1;";

    /** The ten benches of five judges in order. */
    static final int[] OF_FIVE = {7, 11, 19, 13, 21, 25, 14, 22, 26, 28};

    /** No judge of five and no case of five, and all that shifts and wraps might take for one. */
    static final int[] NO_SUCH = {-1, 5, 9, 14, 15, 31, 32, 33, 64, Integer.MIN_VALUE, Integer.MIN_VALUE + 1,
        Integer.MAX_VALUE};

    private Courts() {
    }

    static BenchComposer of(String text) {
        BenchComposer x = new BenchComposer();
        Check.due("text is right: " + text, Check.tell(x, text) >= 0, true);
        return x;
    }

    /** Judges of like seniority, cases of weight 1, nobody barred. */
    static BenchComposer like(int judges, int cases) {
        return of(COURT + "judge 1;".repeat(judges) + "case 1;".repeat(cases));
    }

    /** Its first three cases can have one bench alone: 0 1 2, 2 3 4, 1 2 3. */
    static String fiveJudges(int unsure) {
        return "court 5 " + unsure + " 2 3 4;judge 10;judge 30;judge 30;judge 20;judge 5;"
                + "case 6 not 3 4;case 2 not 0 1;case 9 not 0 4;case 1;";
    }

    static BenchComposer threeDrawn(int unsure) {
        BenchComposer x = of(fiveJudges(unsure));
        Check.due("draw(0)", x.draw(0), 7);
        Check.due("draw(1)", x.draw(1), 28);
        Check.due("draw(2)", x.draw(2), 14);
        return x;
    }

    /** Case 0 has 0 1 2: for case 1 three benches have TENSION 0, six have 1, and 0 1 2 has 3. */
    static BenchComposer threeSixOne(int unsure) {
        BenchComposer x = of("court 1 " + unsure + " 1 0 0;" + "judge 1;".repeat(5) + "case 1 not 3 4;case 1;");
        Check.due("draw(0)", x.draw(0), 7);
        return x;
    }

    static BenchComposer drawnAs(String cases, int... benches) {
        return drawnAs("judge 5;judge 5;judge 5;judge 5;judge 5;", cases, benches);
    }

    /** A seed is looked for that draws the wanted benches; EVEN, LOADED and CHAIR are 0. */
    static BenchComposer drawnAs(String judges, String cases, int... benches) {
        for (int seed = 0; seed <= 9999; seed++) {
            BenchComposer x = of("court " + seed + " 20 0 0 0;" + judges + cases);
            x.drawAll();
            boolean alike = true;
            for (int one = 0; one < benches.length; one++) {
                alike &= x.of(one, 3) == benches[one];
            }
            if (alike) {
                return x;
            }
        }
        throw new IllegalStateException("no seed draws these benches");
    }

    /** All that the calls tell of a court without changing it, but for what hangs on the rest. */
    static String seen(BenchComposer x) {
        StringBuilder seen = new StringBuilder();
        for (int what = 0; what <= 6; what++) {
            seen.append(x.now(what)).append(' ');
        }
        seen.append(x.fault());
        for (int judge = 0; judge < x.now(0); judge++) {
            for (int what = 0; what <= 5; what++) {
                seen.append(what == 0 ? '\n' : ' ').append(x.judge(judge, what));
            }
        }
        for (int one = 0; one < x.now(1); one++) {
            for (int what = 0; what <= 4; what++) {
                seen.append(what == 0 ? '\n' : ' ').append(x.of(one, what));
            }
        }
        return seen.toString();
    }
}
