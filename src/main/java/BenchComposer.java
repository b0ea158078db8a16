import java.util.Arrays;
import java.util.NoSuchElementException;

/** A court that composes benches of three judges; the document is ../shared/DOC.md. */
public final class BenchComposer {
    public static final int NONE = -1;

    private static final int MOST_JUDGES = 9;
    private static final int MOST_CASES = 14;
    private static final int MOST_BENCHES = 84;
    private static final int BENCH_SIZE = 3;
    private static final int MOST_TAPE = 540;
    private static final int MOST_TEXT = 500;
    private static final int FED_AT_ONCE = 20;
    private static final int MOST_UNDONE = 10;
    private static final int MOST_SMOOTHED = 40;
    private static final int NOBODY_COMES = -2;

    private static final int OPEN = 0;
    private static final int SET = 1;
    private static final int HEARD = 2;

    private final Tape tape;
    private final Reader reader;
    private final Told told;
    private final Court court;
    private final Court drawnAnew;
    private final History history;
    private int latestFault;

    public BenchComposer() {
        tape = new Tape();
        reader = new Reader(tape);
        told = new Told();
        court = new Court(told);
        drawnAnew = new Court(told);
        history = new History();
        latestFault = 0;
    }

    public int feed(int a, int b, int c, int d, int e) {
        if (tape.length > MOST_TAPE - FED_AT_ONCE) {
            return NONE;
        }
        tape.put(a);
        tape.put(b);
        tape.put(c);
        tape.put(d);
        tape.put(e);
        return tape.length;
    }

    public boolean end(int n) {
        if (n < 0 || n > tape.length) {
            return false;
        }
        tape.length = n;
        return true;
    }

    public int text() {
        boolean right = reader.read();
        tape.length = 0;
        latestFault = reader.fault;
        if (!right) {
            return -1 - reader.start;
        }
        told.become(reader.draft);
        court.begin();
        history.forget();
        // ANEW hangs on the TEXT alone, so it is worked out once for each.
        drawnAnew.begin();
        drawnAnew.drawEveryOpen();
        return reader.lines;
    }

    public int fault() {
        return latestFault;
    }

    public int now(int what) {
        switch (what) {
            case 0:
                return told.judges;
            case 1:
                return told.cases;
            case 2:
                return court.docket.seed;
            case 3:
                return court.casesAt(SET);
            case 4:
                return court.casesAt(HEARD);
            case 5:
                return history.count;
            case 6:
                return tape.length;
            default:
                return NONE;
        }
    }

    public int judge(int judge, int what) throws NoSuchElementException {
        if (!told.hasJudge(judge)) {
            throw new NoSuchElementException("no such judge");
        }
        switch (what) {
            case 0:
                return told.seniority[judge];
            case 1:
                return has(court.docket.away, judge) ? 1 : 0;
            case 2:
                court.countBenches(NONE);
                return court.loads[judge];
            case 3:
                return court.benchesOf(judge);
            case 4:
                return court.benchesLedBy(judge);
            case 5:
                return court.casesBarredTo(judge);
            default:
                throw new NoSuchElementException("nothing such is told of a judge");
        }
    }

    public int of(int one, int what) throws NoSuchElementException {
        if (!told.hasCase(one)) {
            throw new NoSuchElementException("no such case");
        }
        switch (what) {
            case 0:
                return told.weight[one];
            case 1:
                return court.docket.barred[one];
            case 2:
                return court.docket.stage[one];
            case 3:
                return court.docket.sitting[one];
            case 4:
                return told.presiding(court.docket.sitting[one]);
            default:
                throw new NoSuchElementException("nothing such is told of a case");
        }
    }

    public int pair(int a, int b) {
        if (!told.hasJudge(a) || !told.hasJudge(b) || a == b) {
            return NONE;
        }
        court.countBenches(NONE);
        return court.pairs[pairPlace(a, b)];
    }

    public int spread(int what) {
        if (told.judges < 2 || what < 0 || what > 1) {
            return NONE;
        }
        court.countBenches(NONE);
        return what == 0 ? court.spreadOfPairs() : court.spreadOfLoads();
    }

    public int lawful(int one) {
        if (!told.hasCase(one)) {
            return NONE;
        }
        court.listLawful(one);
        return court.listed;
    }

    public int bench(int one, int i) {
        if (!told.hasCase(one)) {
            return NONE;
        }
        court.listLawful(one);
        return i >= 0 && i < court.listed ? court.benches[i] : NONE;
    }

    public int rank(int one, int bench) {
        if (!told.hasCase(one)) {
            return NONE;
        }
        court.listLawful(one);
        return court.placeListed(bench);
    }

    public int tension(int one, int bench) {
        if (!told.hasCase(one) || !told.isBench(bench)) {
            return NONE;
        }
        court.countBenches(one);
        return court.tensionOf(bench);
    }

    public int pool(int one) {
        if (!told.hasCase(one)) {
            return NONE;
        }
        court.gatherPool(one);
        return court.pooled;
    }

    public int chances(int one, int judge) {
        if (!told.hasCase(one) || !told.hasJudge(judge)) {
            return NONE;
        }
        court.gatherPool(one);
        return court.pooledWith(judge);
    }

    public int worst(int one) {
        if (!told.hasCase(one)) {
            return NONE;
        }
        court.gatherPool(one);
        return court.poolWorst;
    }

    public int draw(int one) {
        if (!told.hasCase(one) || court.docket.stage[one] != OPEN) {
            return NONE;
        }
        history.prepare(court.docket);
        int drawn = court.drawOne(one);
        if (drawn != NONE) {
            history.keepPrepared();
        }
        return drawn;
    }

    public int drawAll() {
        history.prepare(court.docket);
        int drawn = court.drawEveryOpen();
        if (drawn > 0) {
            history.keepPrepared();
        }
        return drawn;
    }

    public int recuse(int one, int judge) {
        if (!court.isSet(one) || !told.hasJudge(judge)
                || !has(court.docket.sitting[one], judge)) {
            return NONE;
        }
        history.prepare(court.docket);
        history.keepPrepared();
        court.docket.barred[one] |= 1 << judge;
        int comer = court.repair(one, judge);
        return comer == NONE ? NOBODY_COMES : comer;
    }

    public int leave(int judge) {
        if (!told.hasJudge(judge) || has(court.docket.away, judge)) {
            return NONE;
        }
        history.prepare(court.docket);
        history.keepPrepared();
        court.docket.away |= 1 << judge;
        return court.repairAllOf(judge);
    }

    public int come(int judge) {
        if (!told.hasJudge(judge) || !has(court.docket.away, judge)) {
            return NONE;
        }
        history.prepare(court.docket);
        history.keepPrepared();
        court.docket.away &= ~(1 << judge);
        return Integer.bitCount(court.docket.away);
    }

    public int hear(int one) {
        if (!court.isSet(one)) {
            return NONE;
        }
        history.prepare(court.docket);
        history.keepPrepared();
        court.docket.stage[one] = HEARD;
        return court.casesAt(HEARD);
    }

    public int evenness() {
        court.countBenches(NONE);
        return court.evennessCounted();
    }

    public int better(int what) {
        if (what < 0 || what > 4 || !court.findBetter()) {
            return NONE;
        }
        switch (what) {
            case 0:
                return court.found.a;
            case 1:
                return court.found.x;
            case 2:
                return court.found.b;
            case 3:
                return court.found.y;
            default:
                return court.found.gain;
        }
    }

    public int exchange(int a, int x, int b, int y) {
        if (!court.mayExchange(a, x, b, y)) {
            return NONE;
        }
        history.prepare(court.docket);
        history.keepPrepared();
        court.changePlaces(a, x, b, y);
        court.countBenches(NONE);
        return court.evennessCounted();
    }

    public int smooth() {
        history.prepare(court.docket);
        int times = 0;
        while (times < MOST_SMOOTHED && court.findBetter()) {
            court.changePlaces(court.found.a, court.found.x, court.found.b, court.found.y);
            times++;
        }
        if (times == 0) {
            return NONE;
        }
        history.keepPrepared();
        return times;
    }

    public int same() {
        int alike = 0;
        for (int one = 0; one < told.cases; one++) {
            if (court.docket.sitting[one] == drawnAnew.docket.sitting[one]) {
                alike++;
            }
        }
        return alike;
    }

    public int anew(int one) {
        return told.hasCase(one) ? drawnAnew.docket.sitting[one] : NONE;
    }

    public int undo() {
        if (history.count == 0) {
            return NONE;
        }
        history.giveBack(court.docket);
        return history.count;
    }

    private static boolean has(int bits, int judge) {
        return (bits >> judge & 1) != 0;
    }

    private static int pairPlace(int a, int b) {
        return a < b ? a * MOST_JUDGES + b : b * MOST_JUDGES + a;
    }

    /** The bytes that were fed and not read yet. */
    private static final class Tape {
        final byte[] bytes;
        int length;

        Tape() {
            bytes = new byte[MOST_TAPE];
            length = 0;
        }

        void put(int four) {
            for (int shift = 24; shift >= 0 && length < MOST_TAPE; shift -= 8) {
                bytes[length] = (byte) (four >> shift);
                length++;
            }
        }
    }

    /** What a TEXT tells; it changes by another TEXT alone. */
    private static final class Told {
        int seed;
        int unsure;
        int even;
        int loaded;
        int chair;
        int leastSenior;
        int judges;
        int cases;
        int seniors;
        final int[] seniority;
        final int[] weight;
        final int[] barred;

        Told() {
            seniority = new int[MOST_JUDGES];
            weight = new int[MOST_CASES];
            barred = new int[MOST_CASES];
            leastSenior = 1;
        }

        void clear() {
            seed = 0;
            unsure = 0;
            even = 0;
            loaded = 0;
            chair = 0;
            leastSenior = 1;
            judges = 0;
            cases = 0;
        }

        void become(Told other) {
            seed = other.seed;
            unsure = other.unsure;
            even = other.even;
            loaded = other.loaded;
            chair = other.chair;
            leastSenior = other.leastSenior;
            judges = other.judges;
            cases = other.cases;
            System.arraycopy(other.seniority, 0, seniority, 0, MOST_JUDGES);
            System.arraycopy(other.weight, 0, weight, 0, MOST_CASES);
            System.arraycopy(other.barred, 0, barred, 0, MOST_CASES);
            markSeniors();
        }

        /** Behind the whole TEXT, as 'senior' may be told behind the judges. */
        private void markSeniors() {
            seniors = 0;
            for (int judge = 0; judge < judges; judge++) {
                if (seniority[judge] >= leastSenior) {
                    seniors |= 1 << judge;
                }
            }
        }

        boolean hasJudge(int judge) {
            return judge >= 0 && judge < judges;
        }

        boolean hasCase(int one) {
            return one >= 0 && one < cases;
        }

        boolean isBench(int bits) {
            return bits >= 0 && bits < 1 << judges && Integer.bitCount(bits) == BENCH_SIZE;
        }

        int presiding(int bench) {
            int first = NONE;
            for (int judge = 0; judge < judges; judge++) {
                if (has(bench, judge) && (first == NONE || seniority[judge] > seniority[first])) {
                    first = judge;
                }
            }
            return first;
        }
    }

    /** What the calls change, and undo() gives back. */
    private static final class Docket {
        int seed;
        int away;
        final int[] stage;
        final int[] sitting;
        final int[] barred;

        Docket() {
            stage = new int[MOST_CASES];
            sitting = new int[MOST_CASES];
            barred = new int[MOST_CASES];
        }

        void begin(Told told) {
            seed = told.seed;
            away = 0;
            Arrays.fill(stage, OPEN);
            Arrays.fill(sitting, 0);
            System.arraycopy(told.barred, 0, barred, 0, MOST_CASES);
        }

        void become(Docket other) {
            seed = other.seed;
            away = other.away;
            System.arraycopy(other.stage, 0, stage, 0, MOST_CASES);
            System.arraycopy(other.sitting, 0, sitting, 0, MOST_CASES);
            System.arraycopy(other.barred, 0, barred, 0, MOST_CASES);
        }
    }

    /** The dockets ahead of the latest changes, in a ring; one row more, for what is not kept yet. */
    private static final class History {
        static final int ROWS = MOST_UNDONE + 1;

        final Docket[] rows;
        int next;
        int count;

        History() {
            rows = new Docket[ROWS];
            for (int row = 0; row < ROWS; row++) {
                rows[row] = new Docket();
            }
            next = 0;
            count = 0;
        }

        void forget() {
            count = 0;
        }

        void prepare(Docket docket) {
            rows[next].become(docket);
        }

        void keepPrepared() {
            next = (next + 1) % ROWS;
            count = Math.min(count + 1, MOST_UNDONE);
        }

        /** Only if count is not 0. */
        void giveBack(Docket docket) {
            next = (next + ROWS - 1) % ROWS;
            count--;
            docket.become(rows[next]);
        }
    }

    /** An EXCHANGE that was looked for, and by how much EVENNESS is less by it. */
    private static final class Found {
        int a;
        int x;
        int b;
        int y;
        int gain;
    }

    /** The benches of one docket: counted, listed, drawn, repaired, exchanged. */
    private static final class Court {
        final Told told;
        final Docket docket;
        final Found found;
        final int[] pairs;
        final int[] loads;
        final int[] benches;
        final int[] tensions;
        int listed;
        int pooled;
        int poolWorst;

        Court(Told told) {
            this.told = told;
            docket = new Docket();
            found = new Found();
            pairs = new int[MOST_JUDGES * MOST_JUDGES];
            loads = new int[MOST_JUDGES];
            benches = new int[MOST_BENCHES];
            tensions = new int[MOST_BENCHES];
        }

        void begin() {
            docket.begin(told);
        }

        boolean isSet(int one) {
            return told.hasCase(one) && docket.stage[one] == SET;
        }

        int casesAt(int stage) {
            int count = 0;
            for (int one = 0; one < told.cases; one++) {
                if (docket.stage[one] == stage) {
                    count++;
                }
            }
            return count;
        }

        int benchesOf(int judge) {
            int count = 0;
            for (int one = 0; one < told.cases; one++) {
                if (has(docket.sitting[one], judge)) {
                    count++;
                }
            }
            return count;
        }

        int benchesLedBy(int judge) {
            int count = 0;
            for (int one = 0; one < told.cases; one++) {
                if (told.presiding(docket.sitting[one]) == judge) {
                    count++;
                }
            }
            return count;
        }

        int casesBarredTo(int judge) {
            int count = 0;
            for (int one = 0; one < told.cases; one++) {
                if (has(docket.barred[one], judge)) {
                    count++;
                }
            }
            return count;
        }

        /** PAIRS and LOADS of all benches but that of one case (NONE: of all). */
        void countBenches(int without) {
            Arrays.fill(pairs, 0);
            Arrays.fill(loads, 0);
            for (int one = 0; one < told.cases; one++) {
                int bench = docket.sitting[one];
                if (one != without && bench != 0) {
                    countBench(bench, told.weight[one], told.presiding(bench));
                }
            }
        }

        private void countBench(int bench, int weight, int first) {
            for (int judge = 0; judge < told.judges; judge++) {
                if (has(bench, judge)) {
                    loads[judge] += judge == first ? weight + told.chair : weight;
                    for (int other = judge + 1; other < told.judges; other++) {
                        if (has(bench, other)) {
                            pairs[pairPlace(judge, other)]++;
                        }
                    }
                }
            }
        }

        /** By the PAIRS and LOADS that were counted latest. */
        int tensionOf(int bench) {
            int together = 0;
            int loaded = 0;
            for (int judge = 0; judge < told.judges; judge++) {
                if (has(bench, judge)) {
                    loaded += loads[judge];
                    together += pairsBehind(bench, judge);
                }
            }
            return told.even * together + told.loaded * loaded;
        }

        private int pairsBehind(int bench, int judge) {
            int together = 0;
            for (int other = judge + 1; other < told.judges; other++) {
                if (has(bench, other)) {
                    together += pairs[pairPlace(judge, other)];
                }
            }
            return together;
        }

        int spreadOfPairs() {
            int most = 0;
            int least = Integer.MAX_VALUE;
            for (int a = 0; a < told.judges; a++) {
                for (int b = a + 1; b < told.judges; b++) {
                    int counted = pairs[pairPlace(a, b)];
                    most = Math.max(most, counted);
                    least = Math.min(least, counted);
                }
            }
            return most - least;
        }

        int spreadOfLoads() {
            int most = 0;
            int least = Integer.MAX_VALUE;
            for (int judge = 0; judge < told.judges; judge++) {
                most = Math.max(most, loads[judge]);
                least = Math.min(least, loads[judge]);
            }
            return most - least;
        }

        int evennessCounted() {
            int together = 0;
            for (int a = 0; a < told.judges; a++) {
                for (int b = a + 1; b < told.judges; b++) {
                    int counted = pairs[pairPlace(a, b)];
                    together += counted * counted;
                }
            }
            return together;
        }

        private boolean isLawful(int one, int bench) {
            return (bench & (docket.barred[one] | docket.away)) == 0 && (bench & told.seniors) != 0;
        }

        void listLawful(int one) {
            listed = 0;
            for (int a = 0; a < told.judges; a++) {
                for (int b = a + 1; b < told.judges; b++) {
                    listThirds(one, 1 << a | 1 << b, b + 1);
                }
            }
        }

        private void listThirds(int one, int two, int from) {
            for (int c = from; c < told.judges; c++) {
                int bench = two | 1 << c;
                if (isLawful(one, bench) && listed < MOST_BENCHES) {
                    benches[listed] = bench;
                    listed++;
                }
            }
        }

        int placeListed(int bench) {
            for (int i = 0; i < listed; i++) {
                if (benches[i] == bench) {
                    return i;
                }
            }
            return NONE;
        }

        /** POOL is then what is listed and no tenser than poolWorst. */
        void gatherPool(int one) {
            listLawful(one);
            countBenches(one);
            for (int i = 0; i < listed; i++) {
                tensions[i] = tensionOf(benches[i]);
            }
            pooled = 0;
            poolWorst = NONE;
            for (int i = 0; i < listed && pooled < listed && pooled < told.unsure; i++) {
                poolWorst = leastTensionAbove(poolWorst);
                pooled += countListedAt(poolWorst);
            }
        }

        private int leastTensionAbove(int bound) {
            int least = Integer.MAX_VALUE;
            for (int i = 0; i < listed; i++) {
                if (tensions[i] > bound) {
                    least = Math.min(least, tensions[i]);
                }
            }
            return least;
        }

        private int countListedAt(int height) {
            int count = 0;
            for (int i = 0; i < listed; i++) {
                if (tensions[i] == height) {
                    count++;
                }
            }
            return count;
        }

        int pooledWith(int judge) {
            int count = 0;
            for (int i = 0; i < listed; i++) {
                if (tensions[i] <= poolWorst && has(benches[i], judge)) {
                    count++;
                }
            }
            return count;
        }

        private int pooledAt(int place) {
            int left = place;
            for (int i = 0; i < listed; i++) {
                if (tensions[i] <= poolWorst) {
                    if (left == 0) {
                        return benches[i];
                    }
                    left--;
                }
            }
            return NONE;
        }

        /** Of an OPEN case: its bench, or NONE, and nothing changes, if none is LAWFUL. */
        int drawOne(int one) {
            gatherPool(one);
            if (pooled <= 0) {
                return NONE;
            }
            docket.seed = docket.seed * 1103515245 + 12345;
            int bench = pooledAt((docket.seed >>> 8) % pooled);
            docket.sitting[one] = bench;
            docket.stage[one] = SET;
            return bench;
        }

        int drawEveryOpen() {
            int drawn = 0;
            for (int one = 0; one < told.cases; one++) {
                if (docket.stage[one] == OPEN && drawOne(one) != NONE) {
                    drawn++;
                }
            }
            return drawn;
        }

        /** A judge who is BARRED or AWAY by now goes: who comes; NONE: the case is OPEN. */
        int repair(int one, int goer) {
            int staying = docket.sitting[one] & ~(1 << goer);
            countBenches(one);
            int comer = NONE;
            int least = 0;
            for (int judge = 0; judge < told.judges; judge++) {
                int bench = staying | 1 << judge;
                if (!has(docket.sitting[one], judge) && isLawful(one, bench)) {
                    int tense = tensionOf(bench);
                    if (comer == NONE || tense < least) {
                        comer = judge;
                        least = tense;
                    }
                }
            }
            docket.sitting[one] = comer == NONE ? 0 : staying | 1 << comer;
            docket.stage[one] = comer == NONE ? OPEN : SET;
            return comer;
        }

        int repairAllOf(int goer) {
            int repaired = 0;
            for (int one = 0; one < told.cases; one++) {
                if (docket.stage[one] == SET && has(docket.sitting[one], goer)
                        && repair(one, goer) != NONE) {
                    repaired++;
                }
            }
            return repaired;
        }

        boolean mayExchange(int a, int x, int b, int y) {
            if (!isSet(a) || !isSet(b) || !told.hasJudge(x) || !told.hasJudge(y)) {
                return false;
            }
            int ofA = docket.sitting[a];
            int ofB = docket.sitting[b];
            if (!has(ofA, x) || has(ofB, x) || !has(ofB, y) || has(ofA, y)) {
                return false;
            }
            return isLawful(a, swapped(ofA, x, y)) && isLawful(b, swapped(ofB, y, x));
        }

        void changePlaces(int a, int x, int b, int y) {
            docket.sitting[a] = swapped(docket.sitting[a], x, y);
            docket.sitting[b] = swapped(docket.sitting[b], y, x);
        }

        private static int swapped(int bench, int goer, int comer) {
            return bench & ~(1 << goer) | 1 << comer;
        }

        /** Whether there is a BETTER; found tells it then. */
        boolean findBetter() {
            countBenches(NONE);
            for (int a = 0; a < told.cases; a++) {
                for (int x = 0; x < told.judges; x++) {
                    if (docket.stage[a] == SET && has(docket.sitting[a], x) && findBetterFor(a, x)) {
                        return true;
                    }
                }
            }
            return false;
        }

        private boolean findBetterFor(int a, int x) {
            for (int b = a + 1; b < told.cases; b++) {
                for (int y = 0; y < told.judges; y++) {
                    if (mayExchange(a, x, b, y)) {
                        int gain = gainOf(a, x, b, y);
                        if (gain > 0) {
                            keepFound(a, x, b, y, gain);
                            return true;
                        }
                    }
                }
            }
            return false;
        }

        private void keepFound(int a, int x, int b, int y, int gain) {
            found.a = a;
            found.x = x;
            found.b = b;
            found.y = y;
            found.gain = gain;
        }

        private int gainOf(int a, int x, int b, int y) {
            int stayingA = docket.sitting[a] & ~(1 << x);
            int stayingB = docket.sitting[b] & ~(1 << y);
            int change = movePairs(stayingA, x, y) + movePairs(stayingB, y, x);
            // The PAIRS serve the next EXCHANGE that is looked at, so they go back.
            movePairs(stayingB, x, y);
            movePairs(stayingA, y, x);
            return -change;
        }

        /** The PAIRS when beside those who stay one goes and one comes: how EVENNESS changes. */
        private int movePairs(int staying, int goer, int comer) {
            int change = 0;
            for (int judge = 0; judge < told.judges; judge++) {
                if (has(staying, judge)) {
                    int less = pairPlace(judge, goer);
                    int more = pairPlace(judge, comer);
                    change += 1 - 2 * pairs[less];
                    pairs[less]--;
                    change += 1 + 2 * pairs[more];
                    pairs[more]++;
                }
            }
            return change;
        }
    }

    /** Reads the tape as a TEXT into a draft, up to the first FAULT. */
    private static final class Reader {
        static final int NO_TOKEN = 0;
        static final int END = 1;
        static final int WORD = 2;
        static final int NUMBER = 3;
        static final int SIGN = 4;

        static final int MOST_DIGITS = 4;

        static final int CANNOT_COME = 1;
        static final int NOT_AS_TOLD = 2;
        static final int TOO_MANY = 3;
        static final int NO_SUCH_JUDGE = 4;

        final Tape tape;
        final Told draft;
        int fault;
        int lines;
        int start;
        private int at;
        private int kind;
        private int value;
        private boolean seniorTold;

        Reader(Tape tape) {
            this.tape = tape;
            draft = new Told();
        }

        /** True: draft holds the TEXT; false: fault is its kind, start its place. */
        boolean read() {
            draft.clear();
            fault = 0;
            lines = 0;
            at = 0;
            seniorTold = false;
            step();
            // A LINE takes a byte at least, so no tape has more of them.
            for (int i = 0; i < MOST_TAPE && kind != END && fault == 0; i++) {
                readLine();
            }
            if (fault == 0 && tape.length > MOST_TEXT) {
                fault = CANNOT_COME;
            }
            return fault == 0;
        }

        private void readLine() {
            if (lines == 0) {
                readCourt();
            } else if (isWord("judge")) {
                readJudge();
            } else if (isWord("senior")) {
                readSenior();
            } else if (isWord("case")) {
                readCase();
            } else {
                fault = CANNOT_COME;
            }
            takeSign();
        }

        private void readCourt() {
            if (!isWord("court")) {
                fault = CANNOT_COME;
                return;
            }
            step();
            draft.seed = takeNumber(0, 9999);
            draft.unsure = takeNumber(1, 20);
            draft.even = takeNumber(0, 9);
            draft.loaded = takeNumber(0, 9);
            draft.chair = takeNumber(0, 9);
        }

        private void readJudge() {
            if (draft.judges >= MOST_JUDGES) {
                fault = TOO_MANY;
                return;
            }
            step();
            draft.seniority[draft.judges] = takeNumber(1, 99);
            draft.judges++;
        }

        private void readSenior() {
            if (seniorTold) {
                fault = TOO_MANY;
                return;
            }
            seniorTold = true;
            step();
            draft.leastSenior = takeNumber(1, 99);
        }

        private void readCase() {
            int one = draft.cases;
            if (one >= MOST_CASES) {
                fault = TOO_MANY;
                return;
            }
            step();
            draft.weight[one] = takeNumber(1, 9);
            draft.barred[one] = 0;
            draft.cases++;
            if (fault == 0 && isWord("not")) {
                step();
                draft.barred[one] = takeBarred();
            }
        }

        /** At least one J, as bits. */
        private int takeBarred() {
            int bits = 0;
            if (kind != NUMBER) {
                fault = CANNOT_COME;
            }
            for (int i = 0; i <= MOST_JUDGES && kind == NUMBER && fault == 0; i++) {
                if (!draft.hasJudge(value) || has(bits, value)) {
                    fault = NO_SUCH_JUDGE;
                } else {
                    bits |= 1 << value;
                    step();
                }
            }
            return bits;
        }

        /** Behind a FAULT nothing more is read, so that start stays its place. */
        private int takeNumber(int least, int most) {
            if (fault != 0) {
                return NONE;
            }
            if (kind != NUMBER) {
                fault = CANNOT_COME;
                return NONE;
            }
            if (value < least || value > most) {
                fault = NOT_AS_TOLD;
                return NONE;
            }
            int taken = value;
            step();
            return taken;
        }

        private void takeSign() {
            if (fault != 0) {
                return;
            }
            if (kind != SIGN) {
                fault = CANNOT_COME;
                return;
            }
            lines++;
            step();
        }

        private boolean isWord(String word) {
            if (kind != WORD || at - start != word.length()) {
                return false;
            }
            for (int i = 0; i < word.length(); i++) {
                if (tape.bytes[start + i] != word.charAt(i)) {
                    return false;
                }
            }
            return true;
        }

        /** The next TOKEN is from start to at, and goes on behind byte 500 if it begins ahead of it. */
        private void step() {
            while (at < tape.length && isBlank(tape.bytes[at])) {
                at++;
            }
            int bound = Math.min(tape.length, MOST_TEXT);
            if (at >= bound) {
                start = bound;
                kind = END;
                return;
            }
            start = at;
            int digits = 0;
            value = 0;
            while (at < tape.length && isSmallOrDigit(tape.bytes[at])) {
                if (tape.bytes[at] <= '9') {
                    digits++;
                    value = value * 10 + (tape.bytes[at] - '0');
                }
                at++;
            }
            if (at == start) {
                kind = tape.bytes[at] == ';' ? SIGN : NO_TOKEN;
                at++;
            } else if (digits == 0) {
                kind = WORD;
            } else {
                kind = digits == at - start && digits <= MOST_DIGITS ? NUMBER : NO_TOKEN;
            }
        }

        private static boolean isBlank(int sign) {
            return sign == 32 || sign == 10;
        }

        private static boolean isSmallOrDigit(int sign) {
            return sign >= 'a' && sign <= 'z' || sign >= '0' && sign <= '9';
        }
    }
}
