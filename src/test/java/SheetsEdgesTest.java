/** Part 5 and Terms, sentence by sentence: SHEETS, FAULTS, TELLING, HAILED, kinds, TRACE, fault(). */
public final class SheetsEdgesTest {
    private static final long LOST = Long.MIN_VALUE;
    private static final int NULL = -11, CAST = -12, INDEX = -13, SIZE = -14;
    private static final int MIN = Integer.MIN_VALUE, MAX = Integer.MAX_VALUE;

    public static void main(String[] args) {
        nothingAtFirst();
        rowsOf0To60();
        zeroAtFirst();
        cutToItsLane();
        newRowInPlaceOfOld();
        loseAtItsEdges();
        cellsAtTheirEdges();
        nothingIsNoCast();
        takenAsARowOfALane();
        indexWhereNoneIsTaken();
        copyAtItsEdges();
        copyOntoItself();
        copyAsTheyWere();
        sizeBelow0();
        telling();
        traceWraps();
        hailed();
        kinds();
        faultAheadOfAny();
        faultOfTheLatestThatNamesOne();
        Check.end();
    }

    private static void due(RowBack x, String call, long got, long want, int fault) {
        Check.due(call, got, want);
        Check.due("fault() behind " + call, x.fault(), fault);
    }

    /** All cells of a sheet are these, and there is no more. */
    private static void row(RowBack x, int k, int lane, int... want) {
        for (int i = 0; i < want.length; i++) {
            due(x, "cell " + i, x.cell(k, i, lane), want[i], 0);
        }
        due(x, "cell behind the last", x.cell(k, want.length, lane), LOST, 3);
    }

    private static void nothingAtFirst() {
        Check.says("SHEETS 0 .. 3 have nothing (at first); SHEETS have nothing");
        RowBack x = new RowBack();
        for (int k = 0; k <= 3; k++) {
            for (int lane = 0; lane < 3; lane++) {
                due(x, "cell", x.cell(k, 0, lane), LOST, 1);
                due(x, "bank", x.bank(k, lane, 0, 0), NULL, 1);
            }
            due(x, "put", x.put(k, 0, 0), NULL, 1);
            due(x, "copy", x.copy(k, 0, k, 0, 0), NULL, 1);
            Check.due("lose", x.lose(k), 0);
            due(x, "sheet", x.sheet(k, 0, 0), 1, 0);
            Check.due("a row of no cells is not nothing", x.lose(k), 1);
        }
        due(x, "SHEET 4", x.sheet(4, 0, 0), -1, 0);
        due(x, "SHEET -1", x.sheet(-1, 0, 0), -1, 0);
    }

    private static void rowsOf0To60() {
        Check.says("a row of 0 .. 60 numbers; OUTSIDE: n above 60; SIZE");
        for (int lane = 0; lane < 3; lane++) {
            RowBack x = new RowBack();
            due(x, "a row of 0", x.sheet(1, lane, 0), 1, 0);
            row(x, 1, lane);
            due(x, "put into a row of 0", x.put(1, 0, 1), INDEX, 3);
            due(x, "a row of 1", x.sheet(1, lane, 1), 1, 0);
            row(x, 1, lane, 0);
            due(x, "a row of 60", x.sheet(1, lane, 60), 1, 0);
            due(x, "its last cell becomes 7", x.put(1, 59, 7), 1, 0);
            due(x, "its last cell", x.cell(1, 59, lane), 7, 0);
            due(x, "no cell 60", x.put(1, 60, 7), INDEX, 3);
            due(x, "no cell 60", x.cell(1, 60, lane), LOST, 3);
            due(x, "a row of 61", x.sheet(1, lane, 61), -2, 0);
            due(x, "a row of -1", x.sheet(1, lane, -1), SIZE, 4);
            due(x, "it stays", x.cell(1, 59, lane), 7, 0);
            due(x, "of no lane, and -1", x.sheet(1, lane - 3, -1), -2, 0);
            due(x, "of no lane, and -1", x.sheet(1, lane + 3, -1), -2, 0);
        }
    }

    private static void zeroAtFirst() {
        Check.says("(0 at first)");
        RowBack x = new RowBack();
        for (int lane = 0; lane < 3; lane++) {
            x.sheet(0, 2, 60);
            for (int i = 0; i < 60; i++) {
                x.put(0, i, -1 - i);
            }
            x.sheet(0, lane, 30);
            row(x, 0, lane, new int[30]);
        }
        x.sheet(0, 0, 3);
        x.put(0, 2, 5);
        x.lose(0);
        x.sheet(0, 0, 4);
        row(x, 0, 0, 0, 0, 0, 0);
    }

    private static void cutToItsLane() {
        Check.says("what comes to a cell of it is cut to its LANE (with its sign): bytes, shorts, ints");
        int[][] due = {
            // put, as a byte, as a short
            {0, 0, 0}, {127, 127, 127}, {128, -128, 128}, {-128, -128, -128}, {-129, 127, -129},
            {255, -1, 255}, {256, 0, 256}, {-256, 0, -256}, {32767, -1, 32767}, {32768, 0, -32768},
            {-32768, 0, -32768}, {-32769, -1, 32767}, {65535, -1, -1}, {65536, 0, 0}, {70000, 112, 4464},
            {MAX, -1, -1}, {MIN, 0, 0},
        };
        RowBack x = new RowBack();
        for (int lane = 0; lane < 3; lane++) {
            x.sheet(lane, lane, due.length);
            for (int i = 0; i < due.length; i++) {
                due(x, "put " + due[i][0], x.put(lane, i, due[i][0]), 1, 0);
                due(x, due[i][0] + " in lane " + lane, x.cell(lane, i, lane), lane == 2 ? due[i][0] : due[i][lane + 1], 0);
            }
        }
    }

    private static void newRowInPlaceOfOld() {
        Check.says("A SHEET gets a new row");
        RowBack x = new RowBack();
        Check.row(x, 2, 1, 7, 8, 9);
        Check.row(x, 3, 1, 5);
        due(x, "another lane and length", x.sheet(2, 0, 2), 1, 0);
        row(x, 2, 0, 0, 0);
        due(x, "it is no row of shorts now", x.cell(2, 0, 1), LOST, 2);
        row(x, 3, 1, 5);
    }

    private static void loseAtItsEdges() {
        Check.says("A SHEET has nothing: 1; 0: it had nothing. UNKNOWN");
        RowBack x = new RowBack();
        Check.row(x, 0, 0, 5);
        Check.row(x, 3, 2, 6);
        Check.due("it had a row", x.lose(0), 1);
        due(x, "it has nothing", x.cell(0, 0, 0), LOST, 1);
        due(x, "nothing can be put", x.put(0, 0, 1), NULL, 1);
        Check.due("it had nothing", x.lose(0), 0);
        Check.due("SHEET 4", x.lose(4), -1);
        Check.due("SHEET -1", x.lose(-1), -1);
        row(x, 3, 2, 6);
        Check.due("the last SHEET", x.lose(3), 1);
        Check.bank(x, "r1011;s0100");
        x.lose(0);
        Check.due("the BANK stays without its SHEET", x.many(0), 1);
    }

    private static void cellsAtTheirEdges() {
        Check.says("INDEX; UNKNOWN: place");
        RowBack x = new RowBack();
        Check.row(x, 1, 2, 10, 11, 12);
        for (int i : new int[] {-1, 3, 60, MIN, MAX}) {
            due(x, "cell " + i, x.cell(1, i, 2), LOST, 3);
            due(x, "put " + i, x.put(1, i, 99), INDEX, 3);
        }
        row(x, 1, 2, 10, 11, 12);
        due(x, "the first", x.put(1, 0, 20), 1, 0);
        due(x, "the last", x.put(1, 2, 22), 1, 0);
        row(x, 1, 2, 20, 11, 22);
    }

    private static void nothingIsNoCast() {
        Check.says("CAST (nothing is no CAST), NULL, INDEX");
        RowBack x = Check.of("r1011;s0100");
        Check.row(x, 2, 1, 5);
        x.lose(2);
        for (int lane = 0; lane < 3; lane++) {
            due(x, "cell", x.cell(2, 9, lane), LOST, 1);
            due(x, "bank", x.bank(2, lane, 9, -1), NULL, 1);
            due(x, "crossings", x.crossings(2, lane, 9, -1), NULL, 1);
        }
    }

    private static void takenAsARowOfALane() {
        Check.says("2 CAST (it is of another LANE, kind)");
        RowBack x = Check.of("r1011;s0100");
        for (int own = 0; own < 3; own++) {
            x.sheet(1, own, own);
            for (int lane = 0; lane < 3; lane++) {
                boolean cast = lane != own;
                int beyond = 7;
                due(x, "cell", x.cell(1, beyond, lane), LOST, cast ? 2 : 3);
                due(x, "bank", x.bank(1, lane, beyond, 0), cast ? CAST : INDEX, cast ? 2 : 3);
                due(x, "bank of -1", x.bank(1, lane, beyond, -1), cast ? CAST : SIZE, cast ? 2 : 4);
                due(x, "crossings", x.crossings(1, lane, beyond, 0), cast ? CAST : INDEX, cast ? 2 : 3);
                due(x, "crossings of -1", x.crossings(1, lane, beyond, -1), cast ? CAST : SIZE, cast ? 2 : 4);
            }
        }
    }

    private static void indexWhereNoneIsTaken() {
        Check.says("3 INDEX (of cells from i on also where i is not 0 .. how many there are, if none of them is taken, too)");
        for (int length : new int[] {0, 1, 60}) {
            RowBack x = Check.of("r1011;s0100");
            x.sheet(1, 1, length);
            x.sheet(2, 1, 60);
            for (int i : new int[] {-1, 0, length, length + 1, MIN, MAX}) {
                boolean there = i >= 0 && i <= length;
                due(x, "bank from " + i + " of " + length, x.bank(1, 1, i, 0), there ? -100 : INDEX, there ? 0 : 3);
                due(x, "crossings from " + i, x.crossings(1, 1, i, 0), there ? -9 : INDEX, there ? 0 : 3);
                due(x, "copy from " + i, x.copy(1, i, 2, 0, 0), there ? 0 : INDEX, there ? 0 : 3);
                due(x, "copy to " + i, x.copy(2, 0, 1, i, 0), there ? 0 : INDEX, there ? 0 : 3);
            }
        }
    }

    private static void copyAtItsEdges() {
        Check.says("INDEX: i, j, n below 0 or beyond");
        for (int i = -1; i <= 4; i++) {
            for (int j = -1; j <= 3; j++) {
                for (int n = -1; n <= 4; n++) {
                    RowBack x = copied();
                    boolean inside = i >= 0 && j >= 0 && n >= 0 && i + n <= 3 && j + n <= 2;
                    due(x, "copy " + i + " " + j + " " + n, x.copy(0, i, 1, j, n), inside ? n : INDEX, inside ? 0 : 3);
                    int[] want = {8, 9};
                    for (int at = 0; inside && at < n; at++) {
                        want[j + at] = i + at + 1;
                    }
                    row(x, 1, 2, want);
                    row(x, 0, 2, 1, 2, 3);
                }
            }
        }
    }

    private static RowBack copied() {
        RowBack x = new RowBack();
        Check.row(x, 0, 2, 1, 2, 3);
        Check.row(x, 1, 2, 8, 9);
        return x;
    }

    private static void copyOntoItself() {
        Check.says("n cells of a SHEET from i on go to another one (perhaps the same) from j on, as they were");
        int[] five = {1, 2, 3, 4, 5};
        for (int i = 0; i <= 5; i++) {
            for (int j = 0; j <= 5; j++) {
                for (int n = 0; n <= 5 - Math.max(i, j); n++) {
                    RowBack x = new RowBack();
                    Check.row(x, 3, 0, five);
                    int[] want = five.clone();
                    for (int at = 0; at < n; at++) {
                        want[j + at] = five[i + at];
                    }
                    due(x, "copy " + i + " " + j + " " + n, x.copy(3, i, 3, j, n), n, 0);
                    row(x, 3, 0, want);
                }
            }
        }
        RowBack x = new RowBack();
        int[] sixty = new int[60];
        int[] moved = new int[60];
        for (int i = 0; i < 60; i++) {
            sixty[i] = i;
            moved[i] = Math.max(0, i - 1);
        }
        Check.row(x, 0, 2, sixty);
        due(x, "59 of 60 one further", x.copy(0, 0, 0, 1, 59), 59, 0);
        row(x, 0, 2, moved);
        due(x, "60 of 60 where they are", x.copy(0, 0, 0, 0, 60), 60, 0);
        due(x, "60 of 60 one further", x.copy(0, 0, 0, 1, 60), INDEX, 3);
        row(x, 0, 2, moved);
    }

    private static void copyAsTheyWere() {
        Check.says("FAULTS NULL (the first, the other), CAST (unlike LANES)");
        RowBack x = new RowBack();
        int[] told = {-128, 127, -1};
        for (int lane = 0; lane < 3; lane++) {
            Check.row(x, 0, lane, told);
            x.sheet(1, lane, 3);
            due(x, "all of lane " + lane, x.copy(0, 0, 1, 0, 3), 3, 0);
            row(x, 1, lane, told);
            x.put(0, 0, 5);
            row(x, 1, lane, told);
            for (int other = 0; other < 3; other++) {
                x.sheet(2, other, 3);
                int want = other == lane ? 0 : CAST;
                due(x, "none, lanes " + lane + " and " + other, x.copy(0, 0, 2, 0, 0), want, want == 0 ? 0 : 2);
                due(x, "beyond, lanes " + lane + " and " + other, x.copy(0, 9, 2, 0, 0), other == lane ? INDEX : CAST, other == lane ? 3 : 2);
            }
        }
        due(x, "the first has nothing", x.copy(3, 9, 0, 9, -1), NULL, 1);
        due(x, "the other has nothing", x.copy(0, 9, 3, 9, -1), NULL, 1);
    }

    private static void sizeBelow0() {
        Check.says("4 SIZE (a length below 0)");
        RowBack x = Check.of("r1011;s0100");
        for (int n : new int[] {-1, MIN}) {
            due(x, "sheet of " + n, x.sheet(0, 0, n), SIZE, 4);
            due(x, "bank of " + n, x.bank(0, 0, 0, n), SIZE, 4);
            due(x, "crossings of " + n, x.crossings(0, 0, 0, n), SIZE, 4);
            due(x, "copy of " + n, x.copy(0, 0, 0, 0, n), INDEX, 3);
        }
        due(x, "bank of 0", x.bank(0, 0, 0, 0), -100, 0);
        due(x, "crossings of 0", x.crossings(0, 0, 0, 0), -9, 0);
        due(x, "sheet of 0", x.sheet(0, 0, 0), 1, 0);
    }

    private static void telling() {
        Check.says("SHADE (1): its WEIGHT. DROWNED (2): and 100. LIVING (3): what DROWNED's gives, and once more what SHADE's gives");
        int[][] due = {{1, 9}, {101, 109}, {102, 118}};
        int[] trace = {1, 2 * 31 + 1, ((3 * 31 + 2) * 31 + 1) * 31 + 1};
        for (int kind = 0; kind < 3; kind++) {
            for (int most = 0; most < 2; most++) {
                char letter = "sdl".charAt(kind);
                RowBack x = Check.of("r1011;" + letter + "3" + (most == 0 ? 1 : 9) + "00");
                Check.due("tell", x.tell(0), due[kind][most]);
                Check.due("trace", x.trace(), trace[kind]);
                Check.due("no shade tells", x.tell(1), -1);
                Check.due("trace as ahead", x.trace(), trace[kind]);
            }
        }
    }

    private static void traceWraps() {
        Check.says("TRACE (an int that wraps, 0 at first, becomes 31 times it and the number)");
        RowBack x = Check.of("r1011;s0100;l0100");
        long all = 0;
        Check.due("at first", x.trace(), 0);
        for (int time = 0; time < 40; time++) {
            x.hail(1);
            all = 31 * all + 5 & 0xFFFFFFFFL;
            Check.due("behind " + (time + 1), x.trace(), all >= 1L << 31 ? all - (1L << 32) : all);
        }
        RowBack seven = Check.of("r1011;s0100");
        int[] due = {1, 32, 993, 30784, 954305, 29583456, 917087137, -1635069824};
        for (int time = 0; time < due.length; time++) {
            seven.tell(0);
            Check.due("behind " + (time + 1), seven.trace(), due[time]);
        }
    }

    private static void hailed() {
        Check.says("HAILED by a lent body (4): the SHADE's number; LIVING ones have their own (5): 60");
        RowBack x = Check.of("r1011;s0100;d0100;l0100;s0100;d0100;l0100");
        int trace = 0;
        for (int s = 0; s < 6; s++) {
            boolean living = s % 3 == 2;
            Check.due("hail(" + s + ")", x.hail(s), living ? 60 : s);
            trace = 31 * trace + (living ? 5 : 4);
            Check.due("trace", x.trace(), trace);
        }
        Check.due("no shade", x.hail(6), -1);
        Check.due("no shade", x.hail(-1), -1);
        Check.due("trace as ahead", x.trace(), trace);
    }

    private static void kinds() {
        Check.says("0 SHADE; 1 DROWNED, a SHADE; 2 LIVING, a DROWNED; CAST: it is none");
        RowBack x = Check.of("r1011;s0100;d0100;l0100");
        for (int s = 0; s < 3; s++) {
            for (int kind = 0; kind < 3; kind++) {
                due(x, s + " as " + kind, x.as(s, kind), kind <= s ? 1 : CAST, kind <= s ? 0 : 2);
            }
            due(x, "kind 3", x.as(s, 3), -2, 0);
            due(x, "kind -1", x.as(s, -1), -2, 0);
        }
        due(x, "no shade", x.as(3, 3), -1, 0);
        Check.due("it leaves nothing in TRACE", x.trace(), 0);
    }

    private static void faultAheadOfAny() {
        Check.says("(0 ahead of any)");
        RowBack x = new RowBack();
        Check.due("of a new object", x.fault(), 0);
        x.many(9);
        x.over(9);
        x.lose(9);
        Check.due("behind calls that name none", x.fault(), 0);
    }

    private static void faultOfTheLatestThatNamesOne() {
        Check.says("The FAULT of the latest call that names one: 0: it came to none, or was refused");
        RowBack x = Check.of("r1011;s0100;l3100");
        Check.row(x, 1, 1, 5);
        due(x, "put", x.put(1, 1, 5), INDEX, 3);
        Check.due("asked once more", x.fault(), 3);
        x.tell(0);
        x.loan(1, 0, 1);
        x.law(9);
        x.lose(3);
        x.overBy(60);
        Check.due("behind calls that name none, taken or refused", x.fault(), 3);
        due(x, "cell", x.cell(1, 0, 0), LOST, 2);
        due(x, "cell that is refused", x.cell(4, 0, 0), LOST, 0);
        due(x, "cell", x.cell(3, 0, 0), LOST, 1);
        due(x, "put that comes to none", x.put(1, 0, 5), 1, 0);
        due(x, "as", x.as(0, 1), CAST, 2);
        due(x, "as that is refused", x.as(2, 1), -1, 0);
        due(x, "as", x.as(0, 2), CAST, 2);
        due(x, "as that comes to none", x.as(1, 2), 1, 0);
        due(x, "sheet", x.sheet(2, 0, -1), SIZE, 4);
        due(x, "a text that is taken", x.bank(0, 0, 0, 17), 2, 0);
        due(x, "sheet", x.sheet(2, 0, -1), SIZE, 4);
        due(x, "a text that is not taken", x.bank(1, 1, 0, 1), -100, 0);
        Check.row(x, 1, 1, 2, 0, 0);
        due(x, "sheet", x.sheet(2, 0, -1), SIZE, 4);
        due(x, "crossings, the first wrong", x.crossings(1, 1, 0, 3), 0, 0);
        due(x, "sheet", x.sheet(2, 0, -1), SIZE, 4);
        due(x, "crossings, all may be", x.crossings(1, 1, 1, 2), -9, 0);
    }
}
