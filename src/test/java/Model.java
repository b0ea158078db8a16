import java.util.ArrayList;
import java.util.Comparator;
import java.util.List;
import java.util.TreeSet;
import java.util.regex.Matcher;
import java.util.regex.Pattern;

/** The document once more, slow and plain, by other means than the class: RandomWalkTest holds both together. */
final class Model {
    /** What a TEXT tells, and what became of it. */
    static final class State {
        int seed;
        int unsure;
        int even;
        int loaded;
        int chair;
        int senior = 1;
        List<Integer> seniority = new ArrayList<>();
        List<Integer> weight = new ArrayList<>();
        List<TreeSet<Integer>> barred = new ArrayList<>();
        List<TreeSet<Integer>> benches = new ArrayList<>();
        List<Boolean> heard = new ArrayList<>();
        TreeSet<Integer> away = new TreeSet<>();

        State copy() {
            State s = new State();
            s.seed = seed;
            s.unsure = unsure;
            s.even = even;
            s.loaded = loaded;
            s.chair = chair;
            s.senior = senior;
            s.seniority.addAll(seniority);
            s.weight.addAll(weight);
            for (TreeSet<Integer> one : barred) {
                s.barred.add(new TreeSet<>(one));
            }
            for (TreeSet<Integer> one : benches) {
                s.benches.add(one == null ? null : new TreeSet<>(one));
            }
            s.heard.addAll(heard);
            s.away.addAll(away);
            return s;
        }
    }

    /** A FAULT on its way out of the reading. */
    private static final class Fault extends RuntimeException {
        private static final long serialVersionUID = 1L;
        final int place;
        final int kind;

        Fault(int place, int kind) {
            this.place = place;
            this.kind = kind;
        }
    }

    private static final Pattern TOKEN = Pattern.compile("[ \n]*([a-z0-9]+|[^ \n])?");

    StringBuilder tape = new StringBuilder();
    State s = new State();
    State first = new State();
    List<State> past = new ArrayList<>();
    int fault = 0;

    private Matcher matcher;
    private String token;
    private int place;
    private int length;

    // the tape and the reading

    int feed(int... five) {
        if (tape.length() + 20 > 540) {
            return -1;
        }
        for (int number : five) {
            for (int i = 3; i >= 0; i--) {
                tape.append((char) (number >>> 8 * i & 255));
            }
        }
        return tape.length();
    }

    boolean end(int n) {
        if (n < 0 || n > tape.length()) {
            return false;
        }
        tape.setLength(n);
        return true;
    }

    int text() {
        String text = tape.toString();
        tape.setLength(0);
        fault = 0;
        try {
            State read = new State();
            int lines = readAll(text, read);
            s = read;
            first = read.copy();
            past.clear();
            return lines;
        } catch (Fault f) {
            fault = f.kind;
            return -1 - f.place;
        }
    }

    private int readAll(String text, State read) {
        matcher = TOKEN.matcher(text);
        length = text.length();
        place = 0;
        next();
        int lines = 0;
        boolean seniorTold = false;
        while (token != null) {
            if (lines == 0) {
                if (!token.equals("court")) {
                    throw new Fault(place, 1);
                }
                next();
                read.seed = number(0, 9999);
                read.unsure = number(1, 20);
                read.even = number(0, 9);
                read.loaded = number(0, 9);
                read.chair = number(0, 9);
            } else if (token.equals("judge")) {
                if (read.seniority.size() == 9) {
                    throw new Fault(place, 3);
                }
                next();
                read.seniority.add(number(1, 99));
            } else if (token.equals("senior")) {
                if (seniorTold) {
                    throw new Fault(place, 3);
                }
                seniorTold = true;
                next();
                read.senior = number(1, 99);
            } else if (token.equals("case")) {
                readCase(read);
            } else {
                throw new Fault(place, 1);
            }
            if (!";".equals(token)) {
                throw new Fault(place, 1);
            }
            lines++;
            next();
        }
        if (length > 500) {
            throw new Fault(500, 1);
        }
        return lines;
    }

    private void readCase(State read) {
        if (read.weight.size() == 14) {
            throw new Fault(place, 3);
        }
        next();
        read.weight.add(number(1, 9));
        TreeSet<Integer> not = new TreeSet<>();
        if ("not".equals(token)) {
            next();
            do {
                int at = place;
                int j = number(0, 9999);
                if (j >= read.seniority.size() || !not.add(j)) {
                    throw new Fault(at, 4);
                }
            } while (!";".equals(token));
        }
        read.barred.add(not);
        read.benches.add(null);
        read.heard.add(false);
    }

    private int number(int least, int most) {
        if (token == null || !token.matches("[0-9]{1,4}")) {
            throw new Fault(place, 1);
        }
        int value = Integer.parseInt(token);
        if (value < least || value > most) {
            throw new Fault(place, 2);
        }
        next();
        return value;
    }

    private void next() {
        matcher.find();
        token = matcher.group(1);
        place = token == null ? length : matcher.start(1);
        if (place >= 500) {
            place = 500;
            token = null;
        }
    }

    // benches

    private int judges() {
        return s.seniority.size();
    }

    private int cases() {
        return s.weight.size();
    }

    private boolean isJudge(int j) {
        return 0 <= j && j < judges();
    }

    private boolean isCase(int one) {
        return 0 <= one && one < cases();
    }

    private boolean isSet(int one) {
        return isCase(one) && s.benches.get(one) != null && !s.heard.get(one);
    }

    private static int bits(TreeSet<Integer> set) {
        int bits = 0;
        if (set != null) {
            for (int j : set) {
                bits += 1 << j;
            }
        }
        return bits;
    }

    private TreeSet<Integer> benchOf(int bits) {
        TreeSet<Integer> set = new TreeSet<>();
        for (int j = 0; j < 32; j++) {
            if ((bits >>> j) % 2 != 0) {
                set.add(j);
            }
        }
        return set.size() == 3 && set.last() < judges() ? set : null;
    }

    private boolean isLawful(int one, TreeSet<Integer> bench) {
        boolean senior = false;
        for (int j : bench) {
            if (s.barred.get(one).contains(j) || s.away.contains(j)) {
                return false;
            }
            senior |= s.seniority.get(j) >= s.senior;
        }
        return senior;
    }

    private List<TreeSet<Integer>> lawfulOnes(int one) {
        List<TreeSet<Integer>> all = new ArrayList<>();
        for (int bits = 0; bits < 512; bits++) {
            TreeSet<Integer> bench = benchOf(bits);
            if (bench != null && isLawful(one, bench)) {
                all.add(bench);
            }
        }
        all.sort(Comparator.comparingInt(
                (TreeSet<Integer> b) -> {
                    int key = 0;
                    for (int j : b) {
                        key = key * 10 + j;
                    }
                    return key;
                }));
        return all;
    }

    private int presides(TreeSet<Integer> bench) {
        int best = -1;
        for (int j : bench.descendingSet()) {
            if (best < 0 || s.seniority.get(j) >= s.seniority.get(best)) {
                best = j;
            }
        }
        return best;
    }

    private int pairWithout(int a, int b, int without) {
        int n = 0;
        for (int one = 0; one < cases(); one++) {
            TreeSet<Integer> bench = s.benches.get(one);
            if (one != without && bench != null && bench.contains(a) && bench.contains(b)) {
                n++;
            }
        }
        return n;
    }

    private int loadWithout(int j, int without) {
        int n = 0;
        for (int one = 0; one < cases(); one++) {
            TreeSet<Integer> bench = s.benches.get(one);
            if (one != without && bench != null && bench.contains(j)) {
                n += s.weight.get(one) + (presides(bench) == j ? s.chair : 0);
            }
        }
        return n;
    }

    private int tensionFor(int one, TreeSet<Integer> bench) {
        int n = 0;
        for (int a : bench) {
            n += s.loaded * loadWithout(a, one);
            for (int b : bench) {
                if (a < b) {
                    n += s.even * pairWithout(a, b, one);
                }
            }
        }
        return n;
    }

    private List<TreeSet<Integer>> poolOf(int one) {
        List<TreeSet<Integer>> all = lawfulOnes(one);
        List<Integer> heights = new ArrayList<>();
        for (TreeSet<Integer> bench : all) {
            heights.add(tensionFor(one, bench));
        }
        List<TreeSet<Integer>> pool = new ArrayList<>();
        for (int height : new TreeSet<>(heights)) {
            if (pool.size() >= s.unsure) {
                break;
            }
            pool.clear();
            for (int i = 0; i < all.size(); i++) {
                if (heights.get(i) <= height) {
                    pool.add(all.get(i));
                }
            }
        }
        return pool;
    }

    // the calls that only tell

    int now(int what) {
        int set = 0;
        int heard = 0;
        for (int one = 0; one < cases(); one++) {
            set += isSet(one) ? 1 : 0;
            heard += s.heard.get(one) ? 1 : 0;
        }
        int[] all = {judges(), cases(), s.seed, set, heard, past.size(), tape.length()};
        return what >= 0 && what < all.length ? all[what] : -1;
    }

    /** Integer.MIN_VALUE: it throws. */
    int judge(int j, int what) {
        if (!isJudge(j) || what < 0 || what > 5) {
            return Integer.MIN_VALUE;
        }
        int on = 0;
        int leads = 0;
        int barred = 0;
        for (int one = 0; one < cases(); one++) {
            TreeSet<Integer> bench = s.benches.get(one);
            on += bench != null && bench.contains(j) ? 1 : 0;
            leads += bench != null && presides(bench) == j ? 1 : 0;
            barred += s.barred.get(one).contains(j) ? 1 : 0;
        }
        int[] all = {s.seniority.get(j), s.away.contains(j) ? 1 : 0, loadWithout(j, -1), on, leads, barred};
        return all[what];
    }

    /** Integer.MIN_VALUE: it throws. */
    int of(int one, int what) {
        if (!isCase(one) || what < 0 || what > 4) {
            return Integer.MIN_VALUE;
        }
        TreeSet<Integer> bench = s.benches.get(one);
        int stage = bench == null ? 0 : s.heard.get(one) ? 2 : 1;
        int[] all = {s.weight.get(one), bits(s.barred.get(one)), stage, bits(bench),
            bench == null ? -1 : presides(bench)};
        return all[what];
    }

    int pair(int a, int b) {
        return isJudge(a) && isJudge(b) && a != b ? pairWithout(a, b, -1) : -1;
    }

    int spread(int what) {
        if (judges() < 2 || what < 0 || what > 1) {
            return -1;
        }
        TreeSet<Integer> all = new TreeSet<>();
        for (int a = 0; a < judges(); a++) {
            for (int b = 0; b < a; b++) {
                all.add(what == 0 ? pairWithout(a, b, -1) : loadWithout(a, -1));
                all.add(what == 0 ? pairWithout(a, b, -1) : loadWithout(b, -1));
            }
        }
        return all.last() - all.first();
    }

    int lawful(int one) {
        return isCase(one) ? lawfulOnes(one).size() : -1;
    }

    int bench(int one, int i) {
        return isCase(one) && i >= 0 && i < lawfulOnes(one).size() ? bits(lawfulOnes(one).get(i)) : -1;
    }

    int rank(int one, int bench) {
        return isCase(one) && benchOf(bench) != null ? lawfulOnes(one).indexOf(benchOf(bench)) : -1;
    }

    int tension(int one, int bench) {
        return isCase(one) && benchOf(bench) != null ? tensionFor(one, benchOf(bench)) : -1;
    }

    int pool(int one) {
        return isCase(one) ? poolOf(one).size() : -1;
    }

    int chances(int one, int j) {
        if (!isCase(one) || !isJudge(j)) {
            return -1;
        }
        return (int) poolOf(one).stream().filter(b -> b.contains(j)).count();
    }

    int worst(int one) {
        if (!isCase(one)) {
            return -1;
        }
        return poolOf(one).stream().mapToInt(b -> tensionFor(one, b)).max().orElse(-1);
    }

    int evenness() {
        int n = 0;
        for (int a = 0; a < judges(); a++) {
            for (int b = a + 1; b < judges(); b++) {
                n += pairWithout(a, b, -1) * pairWithout(a, b, -1);
            }
        }
        return n;
    }

    // the calls that change

    private void keep(State before) {
        past.add(before);
        if (past.size() > 10) {
            past.remove(0);
        }
    }

    private boolean drawIt(int one) {
        List<TreeSet<Integer>> pool = poolOf(one);
        if (s.benches.get(one) != null || pool.isEmpty()) {
            return false;
        }
        s.seed = (int) (s.seed * 1103515245L + 12345L);
        s.benches.set(one, new TreeSet<>(pool.get((s.seed >>> 8) % pool.size())));
        return true;
    }

    int draw(int one) {
        State before = s.copy();
        if (!isCase(one) || !drawIt(one)) {
            return -1;
        }
        keep(before);
        return bits(s.benches.get(one));
    }

    int drawAll() {
        State before = s.copy();
        int n = 0;
        for (int one = 0; one < cases(); one++) {
            n += drawIt(one) ? 1 : 0;
        }
        if (n > 0) {
            keep(before);
        }
        return n;
    }

    private int repair(int one, int goer) {
        TreeSet<Integer> two = s.benches.get(one);
        s.benches.set(one, null);
        two.remove(goer);
        TreeSet<Integer> best = null;
        int comer = -2;
        for (int j = 0; j < judges(); j++) {
            TreeSet<Integer> made = new TreeSet<>(two);
            if (j != goer && made.add(j) && isLawful(one, made)
                    && (best == null || tensionFor(one, made) < tensionFor(one, best))) {
                best = made;
                comer = j;
            }
        }
        s.benches.set(one, best);
        return comer;
    }

    int recuse(int one, int j) {
        if (!isSet(one) || !s.benches.get(one).contains(j)) {
            return -1;
        }
        keep(s.copy());
        s.barred.get(one).add(j);
        return repair(one, j);
    }

    int leave(int j) {
        if (!isJudge(j) || s.away.contains(j)) {
            return -1;
        }
        keep(s.copy());
        s.away.add(j);
        int n = 0;
        for (int one = 0; one < cases(); one++) {
            if (isSet(one) && s.benches.get(one).contains(j)) {
                n += repair(one, j) >= 0 ? 1 : 0;
            }
        }
        return n;
    }

    int come(int j) {
        if (!s.away.contains(j)) {
            return -1;
        }
        keep(s.copy());
        s.away.remove(j);
        return s.away.size();
    }

    int hear(int one) {
        if (!isSet(one)) {
            return -1;
        }
        keep(s.copy());
        s.heard.set(one, true);
        return now(4);
    }

    private boolean exchangeIt(int a, int x, int b, int y) {
        if (!isSet(a) || !isSet(b)) {
            return false;
        }
        TreeSet<Integer> ofA = new TreeSet<>(s.benches.get(a));
        TreeSet<Integer> ofB = new TreeSet<>(s.benches.get(b));
        if (ofB.contains(x) || ofA.contains(y) || !ofA.remove(x) || !ofB.remove(y)) {
            return false;
        }
        ofA.add(y);
        ofB.add(x);
        if (!isLawful(a, ofA) || !isLawful(b, ofB)) {
            return false;
        }
        s.benches.set(a, ofA);
        s.benches.set(b, ofB);
        return true;
    }

    private int[] findBetter() {
        int even = evenness();
        for (int a = 0; a < cases(); a++) {
            for (int x = 0; x < judges(); x++) {
                for (int b = a + 1; b < cases(); b++) {
                    for (int y = 0; y < judges(); y++) {
                        if (exchangeIt(a, x, b, y)) {
                            int gain = even - evenness();
                            exchangeBack(a, x, b, y);
                            if (gain > 0) {
                                return new int[] {a, x, b, y, gain};
                            }
                        }
                    }
                }
            }
        }
        return null;
    }

    private void exchangeBack(int a, int x, int b, int y) {
        s.benches.get(a).remove(y);
        s.benches.get(a).add(x);
        s.benches.get(b).remove(x);
        s.benches.get(b).add(y);
    }

    int better(int what) {
        int[] found = findBetter();
        return found == null || what < 0 || what > 4 ? -1 : found[what];
    }

    int exchange(int a, int x, int b, int y) {
        State before = s.copy();
        if (!exchangeIt(a, x, b, y)) {
            return -1;
        }
        keep(before);
        return evenness();
    }

    int smooth() {
        State before = s.copy();
        int n = 0;
        for (int[] f = findBetter(); f != null && n < 40; f = findBetter()) {
            exchangeIt(f[0], f[1], f[2], f[3]);
            n++;
        }
        if (n == 0) {
            return -1;
        }
        keep(before);
        return n;
    }

    private List<TreeSet<Integer>> drawnAnew() {
        State kept = s;
        s = first.copy();
        for (int one = 0; one < cases(); one++) {
            drawIt(one);
        }
        List<TreeSet<Integer>> benches = s.benches;
        s = kept;
        return benches;
    }

    int same() {
        int n = 0;
        List<TreeSet<Integer>> benches = drawnAnew();
        for (int one = 0; one < cases(); one++) {
            n += bits(benches.get(one)) == bits(s.benches.get(one)) ? 1 : 0;
        }
        return n;
    }

    int anew(int one) {
        return isCase(one) ? bits(drawnAnew().get(one)) : -1;
    }

    int undo() {
        if (past.isEmpty()) {
            return -1;
        }
        s = past.remove(past.size() - 1);
        return past.size();
    }
}
