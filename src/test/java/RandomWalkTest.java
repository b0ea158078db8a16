import java.util.NoSuchElementException;
import java.util.Random;

/** Runs of up to 512 calls, ordinary and strange, on the class and on the model: every answer must be alike. */
public final class RandomWalkTest {
    private static final int RUNS = 400;
    private static final int CALLS = 512;
    private static final int[] STRANGE = {-1, -2, 9, 14, 15, 31, 32, 33, 255, 512, Integer.MIN_VALUE,
        Integer.MAX_VALUE, 1 << 30, 7 << 29, -8};
    private static final String[] BITS = {"court ", "judge ", "case ", "senior ", "not ", "; ", ";", "0 ", "1 ",
        "9 ", "10 ", "99 ", "100 ", "12345 ", "1a ", "x", " ", "\n", "\t", "#", "00 ", "5 ", "20 ", "21 "};

    private final Random random;
    private final int run;
    private final BenchComposer x = new BenchComposer();
    private final Model m = new Model();

    private RandomWalkTest(int run) {
        this.run = run;
        random = new Random(1000L + run);
    }

    public static void main(String[] args) {
        for (int run = 0; run < RUNS; run++) {
            new RandomWalkTest(run).walk();
        }
        Check.close("RandomWalkTest");
    }

    private void walk() {
        int calls = 0;
        calls += tellRight();
        while (calls < CALLS - 40) {
            int dice = random.nextInt(200);
            if (dice == 0) {
                calls += tellRight();
            } else if (dice < 4) {
                calls += tellWrong();
            } else if (dice < 6) {
                strayTape();
                calls++;
            } else if (dice < 90) {
                change();
                calls++;
            } else {
                ask();
                calls++;
            }
        }
    }

    private void due(String call, long got, long want) {
        Check.due("run " + run + ": " + call, got, want);
    }

    private boolean chance(int percent) {
        return random.nextInt(100) < percent;
    }

    // texts

    private String rightText() {
        StringBuilder t = new StringBuilder("court ");
        t.append(random.nextInt(10000)).append(' ').append(1 + random.nextInt(20)).append(' ');
        for (int i = 0; i < 3; i++) {
            t.append(random.nextInt(10)).append(i < 2 ? " " : ";");
        }
        int judges = chance(80) ? 5 + random.nextInt(5) : random.nextInt(10);
        int cases = chance(70) ? 6 + random.nextInt(9) : random.nextInt(15);
        int most = chance(50) ? 99 : 3;
        boolean lateSenior = chance(50);
        String senior = chance(60) ? "senior " + (1 + random.nextInt(most)) + ";" : "";
        t.append(lateSenior ? "" : senior);
        int told = 0;
        for (int i = 0; i < judges; i++) {
            t.append("judge ").append(1 + random.nextInt(most)).append(';');
            told++;
        }
        for (int i = 0; i < cases; i++) {
            t.append("case ").append(1 + random.nextInt(9)).append(barredText(told)).append(';');
        }
        return t.append(lateSenior ? senior : "").toString();
    }

    private String barredText(int judges) {
        if (judges == 0 || chance(50)) {
            return "";
        }
        StringBuilder t = new StringBuilder();
        int used = 0;
        for (int i = 0; i < 1 + random.nextInt(3); i++) {
            int j = random.nextInt(judges);
            if ((used >> j & 1) == 0) {
                used |= 1 << j;
                t.append(' ').append(j);
            }
        }
        return " not" + t;
    }

    private String brokenText() {
        StringBuilder t = new StringBuilder(rightText());
        for (int i = random.nextInt(3); i >= 0; i--) {
            int at = random.nextInt(t.length() + 1);
            String bit = BITS[random.nextInt(BITS.length)];
            if (chance(50) && at < t.length()) {
                t.delete(at, Math.min(t.length(), at + 1 + random.nextInt(4)));
            } else if (chance(10)) {
                t.insert(at, (char) random.nextInt(256));
            } else {
                t.insert(at, bit);
            }
        }
        if (chance(15)) {
            int at = t.indexOf(";") + 1;
            while (at > 0 && t.length() < 480 + random.nextInt(60)) {
                t.insert(at, chance(5) ? '\n' : ' ');
            }
        }
        if (t.length() > 540) {
            t.setLength(540);
        }
        return t.toString();
    }

    private int tellRight() {
        String text = rightText();
        return text.length() <= 500 ? tell(text) : tell("");
    }

    private int tellWrong() {
        return tell(brokenText());
    }

    private int tell(String text) {
        byte[] bytes = Check.bytes(text);
        due("end(0)", x.end(0) ? 1 : 0, m.end(0) ? 1 : 0);
        int calls = 4;
        for (int i = 0; i < bytes.length; i += 20) {
            int[] f = new int[5];
            for (int k = 0; k < 5; k++) {
                f[k] = Check.word(bytes, i + 4 * k);
            }
            due("feed", x.feed(f[0], f[1], f[2], f[3], f[4]), m.feed(f));
            calls++;
        }
        due("end", x.end(bytes.length) ? 1 : 0, m.end(bytes.length) ? 1 : 0);
        due("text() of " + text, x.text(), m.text());
        due("fault() of " + text, x.fault(), m.fault);
        return calls;
    }

    private void strayTape() {
        int n = chance(50) ? strange() : random.nextInt(600);
        if (chance(50)) {
            due("end(" + n + ")", x.end(n) ? 1 : 0, m.end(n) ? 1 : 0);
        } else {
            due("feed", x.feed(n, -n, n, 0, 7), m.feed(n, -n, n, 0, 7));
        }
    }

    // arguments

    private int strange() {
        return STRANGE[random.nextInt(STRANGE.length)];
    }

    private int judge() {
        return chance(4) ? strange() : random.nextInt(10);
    }

    private int one() {
        return chance(4) ? strange() : random.nextInt(15);
    }

    private int what() {
        return chance(4) ? strange() : random.nextInt(8);
    }

    private int bench() {
        int bits = 0;
        for (int i = 0; i < 3; i++) {
            bits |= 1 << random.nextInt(10);
        }
        return chance(8) ? strange() : bits;
    }

    /** Mostly a judge who sits on it. */
    private int sitting(int one) {
        int bits = one >= 0 && one < m.s.weight.size() ? m.of(one, 3) : 0;
        int j = random.nextInt(9);
        for (int i = 0; i < 9 && (bits >> j & 1) == 0; i++) {
            j = (j + 1) % 9;
        }
        return chance(90) ? j : judge();
    }

    // calls

    private void change() {
        int one = one();
        int j = judge();
        switch (random.nextInt(16)) {
            case 0, 1, 2 -> due("draw(" + one + ")", x.draw(one), m.draw(one));
            case 3, 4 -> due("drawAll()", x.drawAll(), m.drawAll());
            case 5, 6 -> {
                int who = sitting(one);
                due("recuse(" + one + ", " + who + ")", x.recuse(one, who), m.recuse(one, who));
            }
            case 7 -> due("leave(" + j + ")", x.leave(j), m.leave(j));
            case 8, 9 -> {
                int back = m.s.away.isEmpty() || chance(20) ? j : m.s.away.first();
                due("come(" + back + ")", x.come(back), m.come(back));
            }
            case 10 -> due("hear(" + one + ")", x.hear(one), m.hear(one));
            case 11, 12, 13 -> exchange();
            case 14 -> due("smooth()", x.smooth(), m.smooth());
            default -> due("undo()", x.undo(), m.undo());
        }
    }

    private void exchange() {
        int a = one();
        int b = one();
        int p = sitting(a);
        int q = sitting(b);
        due("exchange(" + a + ", " + p + ", " + b + ", " + q + ")", x.exchange(a, p, b, q),
                m.exchange(a, p, b, q));
    }

    private void ask() {
        int one = one();
        int j = judge();
        int what = what();
        int bits = bench();
        switch (random.nextInt(18)) {
            case 0 -> due("now(" + what + ")", x.now(what), m.now(what));
            case 1 -> due("judge(" + j + ", " + what + ")", judgeOf(j, what), m.judge(j, what));
            case 2 -> due("of(" + one + ", " + what + ")", caseOf(one, what), m.of(one, what));
            case 3 -> due("pair(" + j + ", " + what + ")", x.pair(j, what), m.pair(j, what));
            case 4 -> due("spread(" + what % 3 + ")", x.spread(what % 3), m.spread(what % 3));
            case 5 -> due("lawful(" + one + ")", x.lawful(one), m.lawful(one));
            case 6 -> due("bench(" + one + ", " + bits % 90 + ")", x.bench(one, bits % 90), m.bench(one, bits % 90));
            case 7 -> due("rank(" + one + ", " + bits + ")", x.rank(one, bits), m.rank(one, bits));
            case 8 -> due("tension(" + one + ", " + bits + ")", x.tension(one, bits), m.tension(one, bits));
            case 9 -> due("pool(" + one + ")", x.pool(one), m.pool(one));
            case 10 -> due("chances(" + one + ", " + j + ")", x.chances(one, j), m.chances(one, j));
            case 11 -> due("worst(" + one + ")", x.worst(one), m.worst(one));
            case 12 -> due("evenness()", x.evenness(), m.evenness());
            case 13, 14 -> due("better(" + what + ")", x.better(what), m.better(what));
            case 15 -> due("same()", x.same(), m.same());
            case 16 -> due("anew(" + one + ")", x.anew(one), m.anew(one));
            default -> due("fault()", x.fault(), m.fault);
        }
    }

    private int judgeOf(int j, int what) {
        try {
            return x.judge(j, what);
        } catch (NoSuchElementException e) {
            return Integer.MIN_VALUE;
        }
    }

    private int caseOf(int one, int what) {
        try {
            return x.of(one, what);
        } catch (NoSuchElementException e) {
            return Integer.MIN_VALUE;
        }
    }
}
