/** All promises at once: long runs of calls, each answer held against the Model's. */
public final class ModelTest {
    private static final int RUNS = 800, CALLS = 512;
    /** No step below makes more calls: a text is written by some 50. */
    private static final int LONGEST = 60;
    private static final int[] ODD = {-1, 3, 4, 6, 7, 20, 21, 59, 60, 61, 99, Integer.MAX_VALUE, Integer.MIN_VALUE};

    private static long seed;
    private static RowBack x;
    private static Model m;
    private static int run;
    private static int used;

    public static void main(String[] args) {
        for (run = 0; run < RUNS; run++) {
            seed = 7919L * run + 1;
            x = new RowBack();
            m = new Model();
            used = 0;
            while (used < CALLS - LONGEST) {
                if (pick(24) == 0) writeText();
                else call();
            }
        }
        Check.end();
    }

    /** A number of a row that is the same each time the test runs. */
    private static int pick(int bound) {
        seed = seed * 6364136223846793005L + 1442695040888963407L;
        return (int) ((seed >>> 33) % bound);
    }

    /** Mostly one of so many, sometimes one beyond. */
    private static int near(int bound) {
        return pick(12) == 0 ? ODD[pick(ODD.length)] : pick(bound);
    }

    private static void due(String call, long got, long want) {
        used++;
        Check.due("run " + run + ": " + call, got, want);
    }

    private static String text() {
        StringBuilder text = new StringBuilder();
        text.append('r').append(1 + pick(4) * pick(2));
        text.append(pick(3)).append(1 + pick(9)).append(1 + pick(4));
        int last = pick(2) == 0 ? 3 : 30;
        for (int s = 1 + pick(6); s > 0; s--) {
            int night = pick(last);
            text.append(';').append("sdl".charAt(pick(4) * pick(2) % 3)).append(pick(4)).append(1 + pick(9));
            text.append(night / 10).append(night % 10);
        }
        int spoil = pick(8);
        if (spoil == 0) text.setLength(pick(text.length() + 1));
        if (spoil == 1) text.setCharAt(pick(text.length()), (char) ('0' + pick(12)));
        if (spoil == 2) text.append(";s0100", 0, 1 + pick(6));
        return text.toString();
    }

    private static void writeText() {
        String text = text();
        int k = pick(4);
        int lane = pick(3);
        int from = pick(3);
        due("sheet", x.sheet(k, lane, text.length() + from), m.sheet(k, lane, text.length() + from));
        for (int i = 0; i < text.length(); i++) {
            due("put", x.put(k, from + i, text.charAt(i)), m.put(k, from + i, text.charAt(i)));
        }
        due("bank of " + text, x.bank(k, lane, from, text.length()), m.bank(k, lane, from, text.length()));
    }

    private static void call() {
        int kind = pick(5);
        if (kind == 0) callBank();
        if (kind == 1) callNights();
        if (kind == 2) callCrossings();
        if (kind == 3) callLoans();
        if (kind == 4) callSheets();
        if (pick(3) == 0) due("fault", x.fault(), m.fault());
    }

    private static void callBank() {
        int a = near(6);
        int b = near(6);
        int c = near(4);
        switch (pick(7)) {
            case 0: due("ofShade " + a + " " + c, x.ofShade(a, c), m.ofShade(a, c)); break;
            case 1: due("ofShade " + a + " 6", x.ofShade(a, 6), m.ofShade(a, 6)); break;
            case 2: due("law " + c, x.law(c), m.law(c)); break;
            case 3: case 4: due("loan " + a + " " + b + " " + c, x.loan(a, b, c), m.loan(a, b, c)); break;
            case 5: due("undo " + c, x.undo(c), m.undo(c)); break;
            default: due("many " + a, x.many(a), m.many(a)); break;
        }
    }

    private static void callNights() {
        int s = near(6);
        int night = pick(2) == 0 ? near(60) : near(8);
        switch (pick(6)) {
            case 0: due("over " + s, x.over(s), m.over(s)); break;
            case 1: due("overBy " + night, x.overBy(night), m.overBy(night)); break;
            case 2: due("rower " + night, x.rower(night), m.rower(night)); break;
            case 3: due("sits " + night, x.sits(night), m.sits(night)); break;
            case 4: due("waits " + s, x.waits(s), m.waits(s)); break;
            default: due("allWait", x.allWait(), m.allWait()); break;
        }
    }

    private static void callCrossings() {
        int w = pick(2) == 0 ? near(61) : near(10);
        switch (pick(4)) {
            case 0: crossSome(); break;
            case 1: {
                int k = near(4), lane = near(3), i = near(4), n = near(9);
                due("crossings " + k + " " + lane + " " + i + " " + n, x.crossings(k, lane, i, n), m.crossings(k, lane, i, n));
                break;
            }
            case 2: due("least", x.least(), m.least()); break;
            default: due("laws " + w, x.laws(w), m.laws(w)); break;
        }
    }

    /** Sets that may cross as often as not: one shade a night, or two, in their order. */
    private static void crossSome() {
        int k = pick(4);
        int lane = pick(3);
        int n = 1 + pick(7);
        due("sheet", x.sheet(k, lane, n), m.sheet(k, lane, n));
        for (int i = 0; i < n; i++) {
            int set = pick(4) == 0 ? 0 : 1 << pick(6) & (pick(3) == 0 ? 63 : 7) | (pick(3) == 0 ? 1 << pick(6) : 0);
            due("put", x.put(k, i, set), m.put(k, i, set));
        }
        due("crossings", x.crossings(k, lane, 0, n), m.crossings(k, lane, 0, n));
    }

    private static void callLoans() {
        int s = near(6);
        int night = pick(2) == 0 ? near(60) : near(8);
        int k = near(4);
        boolean was = m.over(s) >= 0 && m.over(s) <= night ? pick(4) > 0 : pick(4) == 0;
        switch (pick(8)) {
            case 0: due("gain 0", x.gain(0), m.gain(0)); break;
            case 1: due("gain " + k, x.gain(k), m.gain(k)); break;
            case 2: due("favours " + s, x.favours(s), m.favours(s)); break;
            case 3: case 4: due("reading " + s + " " + night + " " + was, x.reading(s, night, was), m.reading(s, night, was)); break;
            case 5: due("back " + k, x.back(k), m.back(k)); break;
            case 6: due("payers " + s, x.payers(s), m.payers(s)); break;
            default: due("rules", x.rules(), m.rules()); break;
        }
    }

    private static void callSheets() {
        int k = near(4);
        int lane = near(3);
        int i = near(5);
        int other = near(4);
        int n = near(6);
        int v = pick(2) == 0 ? pick(Integer.MAX_VALUE) - pick(Integer.MAX_VALUE) : pick(300);
        switch (pick(12)) {
            case 0: case 1: due("sheet " + k + " " + lane + " " + n, x.sheet(k, lane, n), m.sheet(k, lane, n)); break;
            case 2: due("lose " + k, x.lose(k), m.lose(k)); break;
            case 3: case 4: due("put " + k + " " + i + " " + v, x.put(k, i, v), m.put(k, i, v)); break;
            case 5: due("cell " + k + " " + i + " " + lane, x.cell(k, i, lane), m.cell(k, i, lane)); break;
            case 6: case 7: copySome(k, i, other, n); break;
            case 8: due("tell " + i, x.tell(i), m.tell(i)); break;
            case 9: due("hail " + i, x.hail(i), m.hail(i)); break;
            case 10: due("as " + i + " " + lane, x.as(i, lane), m.as(i, lane)); break;
            default: due("trace", x.trace(), m.trace()); break;
        }
    }

    private static void copySome(int k, int i, int other, int n) {
        int j = near(4);
        due("copy " + k + " " + i + " " + other + " " + j + " " + n, x.copy(k, i, other, j, n), m.copy(k, i, other, j, n));
        for (int at = 0; at < 4; at++) {
            for (int lane = 0; lane < 3; lane++) {
                due("cell " + other + " " + at + " " + lane, x.cell(other, at, lane), m.cell(other, at, lane));
            }
        }
    }
}
