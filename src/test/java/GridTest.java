/**
 * Each call with each combination of numbers at its edges and far beyond, of an object without
 * a BANK, with a small one and with a full one: each answer, and fault(), held against the Model's.
 */
public final class GridTest {
    private static final int MIN = Integer.MIN_VALUE, MAX = Integer.MAX_VALUE;
    private static final int CALLS = 512, LONGEST = 40;
    private static final int[] SHEETS = {MIN, -1, 0, 1, 2, 3, 4, MAX};
    private static final int[] LANES = {MIN, -1, 0, 1, 2, 3, MAX};
    private static final int[] CELLS = {MIN, -1, 0, 1, 20, 21, 22, 23, 60, 61, MAX};
    private static final int[] SHADES = {MIN, -1, 0, 1, 2, 5, 6, MAX};
    private static final int[] COINS = {MIN, -1, 0, 1, 2, 3, 4, MAX};
    private static final int[] NIGHTS = {MIN, -1, 0, 1, 29, 30, 58, 59, 60, 61, MAX};
    private static final int[] SMALL = {MIN, -1, 0, 1, 2, 3, 4, 5, 6, 7, 8, MAX};
    private static final String[] TEXTS = {"", "r1051;l3900;s2103", "r3204;s3100;d0229;l2310;s0500;d3401;l3900"};

    private static RowBack x;
    private static Model m;
    private static int state;
    private static int used;

    public static void main(String[] args) {
        for (state = 0; state < TEXTS.length; state++) {
            used = CALLS;
            ofCells();
            ofCopies();
            ofSheets();
            ofShades();
            ofNumbers();
        }
        Check.end();
    }

    private static void due(String call, long got, long want) {
        used += 2;
        Check.due("state " + state + ": " + call, got, want);
        Check.due("state " + state + ": fault() behind " + call, x.fault(), m.fault());
    }

    /** A new object, when the one at hand has been asked nearly 512 times. */
    private static void ready() {
        if (used < CALLS - LONGEST) return;
        x = new RowBack();
        m = new Model();
        used = 0;
        String text = TEXTS[state];
        sheet(0, 0, text.length());
        for (int i = 0; i < text.length(); i++) {
            put(0, i, text.charAt(i));
        }
        due("bank", x.bank(0, 0, 0, text.length()), m.bank(0, 0, 0, text.length()));
        sheet(1, 1, 22);
        put(1, 0, 2);
        put(1, 20, 1);
        put(1, 21, 64);
        sheet(2, 2, 60);
        put(2, 21, -1);
        if (state == 2) fill();
    }

    private static void fill() {
        for (int k = 0; k < 6; k++) {
            int from = k % 2 == 0 ? 0 : 2;
            due("loan", x.loan(from, 2 - from, 1), m.loan(from, 2 - from, 1));
            due("reading", x.reading(k, 29, k < 3), m.reading(k, 29, k < 3));
        }
    }

    private static void sheet(int k, int lane, int n) {
        due("sheet " + k + " " + lane + " " + n, x.sheet(k, lane, n), m.sheet(k, lane, n));
    }

    private static void put(int k, int i, int v) {
        due("put " + k + " " + i + " " + v, x.put(k, i, v), m.put(k, i, v));
    }

    private static void ofCells() {
        for (int k : SHEETS) {
            for (int lane : LANES) {
                for (int i : CELLS) {
                    ready();
                    due("cell " + k + " " + i + " " + lane, x.cell(k, i, lane), m.cell(k, i, lane));
                    for (int n : CELLS) {
                        ready();
                        String call = " " + k + " " + lane + " " + i + " " + n;
                        due("bank" + call, x.bank(k, lane, i, n), m.bank(k, lane, i, n));
                        due("crossings" + call, x.crossings(k, lane, i, n), m.crossings(k, lane, i, n));
                    }
                }
            }
        }
    }

    private static void ofCopies() {
        for (int k : SHEETS) {
            for (int other : SHEETS) {
                for (int i : CELLS) {
                    for (int j : CELLS) {
                        copy(k, i, other, j);
                    }
                }
            }
        }
    }

    private static void copy(int k, int i, int other, int j) {
        for (int n : new int[] {MIN, -1, 0, 1, 22, 60, MAX}) {
            ready();
            due("copy " + k + " " + i + " " + other + " " + j + " " + n, x.copy(k, i, other, j, n), m.copy(k, i, other, j, n));
        }
        for (int at = 0; at < 60; at += 20) {
            due("cell behind copy", x.cell(other, at, other), m.cell(other, at, other));
        }
    }

    private static void ofSheets() {
        for (int k : SHEETS) {
            for (int i : CELLS) {
                ready();
                put(k, i, i);
                due("cell behind put", x.cell(k, i, k), m.cell(k, i, k));
            }
            for (int lane : LANES) {
                for (int n : CELLS) {
                    ready();
                    sheet(k, lane, n);
                    due("lose " + k, x.lose(k), m.lose(k));
                    sheet(k, lane, n);
                    due("cell behind sheet", x.cell(k, n - 1, lane), m.cell(k, n - 1, lane));
                }
            }
            ready();
            due("lose " + k, x.lose(k), m.lose(k));
            due("lose " + k + " once more", x.lose(k), m.lose(k));
        }
    }

    private static void ofShades() {
        for (int s : SHADES) {
            for (int what : SMALL) {
                ready();
                due("ofShade " + s + " " + what, x.ofShade(s, what), m.ofShade(s, what));
                due("as " + s + " " + what, x.as(s, what), m.as(s, what));
            }
            for (int to : SHADES) {
                for (int coins : COINS) {
                    ready();
                    due("loan " + s + " " + to + " " + coins, x.loan(s, to, coins), m.loan(s, to, coins));
                }
            }
            for (int night : NIGHTS) {
                ready();
                due("reading " + s + " " + night, x.reading(s, night, true), m.reading(s, night, true));
            }
            ready();
            due("over " + s, x.over(s), m.over(s));
            due("waits " + s, x.waits(s), m.waits(s));
            due("favours " + s, x.favours(s), m.favours(s));
            due("payers " + s, x.payers(s), m.payers(s));
            due("tell " + s, x.tell(s), m.tell(s));
            due("hail " + s, x.hail(s), m.hail(s));
            due("trace", x.trace(), m.trace());
        }
    }

    private static void ofNumbers() {
        for (int night : NIGHTS) {
            ready();
            due("overBy " + night, x.overBy(night), m.overBy(night));
            due("rower " + night, x.rower(night), m.rower(night));
            due("sits " + night, x.sits(night), m.sits(night));
            due("laws " + night, x.laws(night), m.laws(night));
        }
        for (int k : SMALL) {
            ready();
            due("law " + k, x.law(k), m.law(k));
            due("many " + k, x.many(k), m.many(k));
            due("gain " + k, x.gain(k), m.gain(k));
            used = CALLS;
            ready();
            due("undo " + k, x.undo(k), m.undo(k));
            due("back " + k, x.back(k), m.back(k));
            due("allWait", x.allWait(), m.allWait());
            due("least", x.least(), m.least());
            due("rules", x.rules(), m.rules());
        }
    }
}
