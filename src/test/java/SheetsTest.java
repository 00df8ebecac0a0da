/** Part 5, sheets and parts: promises 22 to 31. */
public final class SheetsTest {
    private static final long LOST = Long.MIN_VALUE;
    private static RowBack x;

    public static void main(String[] args) {
        sheet();
        lose();
        put();
        lanesCut();
        cell();
        copy();
        copyRefuses();
        tellAndTrace();
        hail();
        as();
        faultOfTheLatest();
        Check.end();
    }

    private static void due(String call, long got, long want, int fault) {
        Check.due(call, got, want);
        Check.due("fault after " + call, x.fault(), fault);
    }

    private static void sheet() {
        x = new RowBack();
        due("no sheet ahead of lane", x.sheet(4, 3, 61), -1, 0);
        due("no sheet -1", x.sheet(-1, 0, -1), -1, 0);
        due("no lane ahead of size", x.sheet(0, 3, -1), -2, 0);
        due("no lane -1", x.sheet(0, -1, 1), -2, 0);
        due("61 cells", x.sheet(0, 0, 61), -2, 0);
        due("far too many", x.sheet(0, 0, Integer.MAX_VALUE), -2, 0);
        due("a length below 0", x.sheet(0, 0, -1), -14, 4);
        due("far below 0", x.sheet(0, 2, Integer.MIN_VALUE), -14, 4);
        due("nothing was made", x.cell(0, 0, 0), LOST, 1);
        for (int k = 0; k < 4; k++) {
            for (int lane = 0; lane < 3; lane++) {
                due("60 cells", x.sheet(k, lane, 60), 1, 0);
                for (int i = 0; i < 60; i++) {
                    due("0 at first", x.cell(k, i, lane), 0, 0);
                    x.put(k, i, i + 1);
                }
                due("the last cell", x.cell(k, 59, lane), 60, 0);
                due("no 61st cell", x.cell(k, 60, lane), LOST, 3);
                x = lane == 2 ? new RowBack() : x;
            }
        }
        x = new RowBack();
        due("no cells", x.sheet(1, 1, 0), 1, 0);
        due("has no cell", x.cell(1, 0, 1), LOST, 3);
        due("has a row", x.lose(1), 1, 3);
        x.sheet(1, 1, 5);
        x.put(1, 4, 7);
        due("refused", x.sheet(1, 0, 61), -2, 0);
        due("the row stays", x.cell(1, 4, 1), 7, 0);
        due("a length below 0", x.sheet(1, 0, -1), -14, 4);
        due("the row stays", x.cell(1, 4, 1), 7, 0);
        due("a shorter row", x.sheet(1, 1, 4), 1, 0);
        due("is shorter", x.cell(1, 4, 1), LOST, 3);
        due("a longer row", x.sheet(1, 1, 5), 1, 0);
        due("0 at first", x.cell(1, 4, 1), 0, 0);
        due("the others have nothing", x.cell(2, 0, 1), LOST, 1);
    }

    private static void lose() {
        x = new RowBack();
        Check.due("no sheet 4", x.lose(4), -1);
        Check.due("no sheet -1", x.lose(-1), -1);
        Check.due("had nothing", x.lose(3), 0);
        Check.row(x, 3, 2, 5, 6);
        Check.row(x, 2, 2, 7);
        Check.due("had a row", x.lose(3), 1);
        due("has nothing", x.cell(3, 0, 2), LOST, 1);
        Check.due("has nothing now", x.lose(3), 0);
        due("the others stay", x.cell(2, 0, 2), 7, 0);
        x.sheet(3, 2, 2);
        due("a new row", x.cell(3, 0, 2), 0, 0);
    }

    private static void put() {
        x = new RowBack();
        due("no sheet 4", x.put(4, -1, 0), -1, 0);
        due("no sheet -1", x.put(-1, 0, 0), -1, 0);
        due("nothing ahead of index", x.put(0, -1, 0), -11, 1);
        x.sheet(0, 2, 3);
        due("below 0", x.put(0, -1, 5), -13, 3);
        due("beyond", x.put(0, 3, 5), -13, 3);
        due("far below 0", x.put(0, Integer.MIN_VALUE, 5), -13, 3);
        due("far beyond", x.put(0, Integer.MAX_VALUE, 5), -13, 3);
        for (int i = 0; i < 3; i++) {
            due("nothing was put", x.cell(0, i, 2), 0, 0);
            due("put", x.put(0, i, 10 + i), 1, 0);
        }
        due("put once more", x.put(0, 1, -1), 1, 0);
        due("first", x.cell(0, 0, 2), 10, 0);
        due("second", x.cell(0, 1, 2), -1, 0);
        due("third", x.cell(0, 2, 2), 12, 0);
    }

    private static void lanesCut() {
        x = new RowBack();
        int[] told = {127, 128, 255, 256, -128, -129, 32767, 32768, 65535, 65536, -32768, -32769, 70001, Integer.MAX_VALUE, Integer.MIN_VALUE};
        for (int lane = 0; lane < 3; lane++) {
            Check.row(x, lane, lane, told);
            for (int i = 0; i < told.length; i++) {
                long want = lane == 0 ? (byte) told[i] : lane == 1 ? (short) told[i] : told[i];
                due("lane " + lane + " of " + told[i], x.cell(lane, i, lane), want, 0);
            }
        }
        due("128 as a byte", x.cell(0, 1, 0), -128, 0);
        due("32768 as a short", x.cell(1, 7, 1), -32768, 0);
    }

    private static void cell() {
        x = new RowBack();
        Check.row(x, 1, 1, 4, 5);
        x.as(0, 0);
        due("no sheet 4", x.cell(4, -1, 3), LOST, 0);
        due("no sheet -1", x.cell(-1, 0, 1), LOST, 0);
        due("no lane, of nothing", x.cell(0, -1, 3), LOST, 0);
        due("no lane", x.cell(1, 9, 3), LOST, 0);
        due("no lane -1", x.cell(1, 0, -1), LOST, 0);
        due("another lane ahead of index", x.cell(1, 9, 0), LOST, 2);
        due("another lane", x.cell(1, 0, 2), LOST, 2);
        for (int lane = 0; lane < 3; lane++) {
            due("nothing is no cast", x.cell(0, -1, lane), LOST, 1);
        }
        due("below 0", x.cell(1, -1, 1), LOST, 3);
        due("beyond", x.cell(1, 2, 1), LOST, 3);
        due("far below 0", x.cell(1, Integer.MIN_VALUE, 1), LOST, 3);
        due("far beyond", x.cell(1, Integer.MAX_VALUE, 1), LOST, 3);
        due("first", x.cell(1, 0, 1), 4, 0);
        due("last", x.cell(1, 1, 1), 5, 0);
        x.lose(1);
        due("nothing is no cast", x.cell(1, 0, 0), LOST, 1);
    }

    private static void dueCells(String call, int k, int lane, int... want) {
        for (int i = 0; i < want.length; i++) {
            Check.due(call + ", cell " + i, x.cell(k, i, lane), want[i]);
        }
        Check.due(call + ", its end", x.cell(k, want.length, lane), LOST);
    }

    private static void copy() {
        for (int lane = 0; lane < 3; lane++) {
            x = new RowBack();
            Check.row(x, 0, lane, 1, 2, 3, 4, 5);
            Check.row(x, 1, lane, 9, 8, 7);
            due("to another one", x.copy(0, 3, 1, 1, 2), 2, 0);
            dueCells("to another one", 1, lane, 9, 4, 5);
            dueCells("from it", 0, lane, 1, 2, 3, 4, 5);
            due("up, over itself", x.copy(0, 0, 0, 1, 4), 4, 0);
            dueCells("as they were", 0, lane, 1, 1, 2, 3, 4);
            due("down, over itself", x.copy(0, 2, 0, 0, 3), 3, 0);
            dueCells("as they were", 0, lane, 2, 3, 4, 3, 4);
            due("onto itself", x.copy(0, 0, 0, 0, 5), 5, 0);
            dueCells("as they were", 0, lane, 2, 3, 4, 3, 4);
            due("none", x.copy(0, 5, 1, 3, 0), 0, 0);
            due("none", x.copy(0, 0, 1, 0, 0), 0, 0);
            dueCells("none went", 1, lane, 9, 4, 5);
            due("all", x.copy(1, 0, 0, 2, 3), 3, 0);
            dueCells("all", 0, lane, 2, 3, 9, 4, 5);
        }
    }

    private static void copyRefuses() {
        x = new RowBack();
        Check.row(x, 0, 0, 1, 2, 3);
        Check.row(x, 1, 0, 4, 5);
        Check.row(x, 2, 1, 6, 7);
        due("no sheet 4", x.copy(4, -1, 3, -1, -1), -1, 0);
        due("no sheet -1", x.copy(-1, 0, 0, 0, 0), -1, 0);
        due("no other sheet ahead of nothing", x.copy(3, 0, 4, 0, 0), -1, 0);
        due("no other sheet -1", x.copy(0, 0, -1, 0, 0), -1, 0);
        due("the first has nothing", x.copy(3, -1, 2, -1, -1), -11, 1);
        due("the other has nothing", x.copy(0, -1, 3, -1, -1), -11, 1);
        due("both have nothing", x.copy(3, 0, 3, 0, 0), -11, 1);
        due("unlike lanes ahead of index", x.copy(0, -1, 2, 9, -1), -12, 2);
        due("unlike lanes", x.copy(2, 0, 0, 0, 1), -12, 2);
        due("unlike lanes, of none", x.copy(0, 0, 2, 0, 0), -12, 2);
        due("i below 0", x.copy(0, -1, 1, 0, 1), -13, 3);
        due("j below 0", x.copy(0, 0, 1, -1, 1), -13, 3);
        due("n below 0", x.copy(0, 1, 1, 1, -1), -13, 3);
        due("i beyond", x.copy(0, 2, 1, 0, 2), -13, 3);
        due("j beyond", x.copy(0, 0, 1, 1, 2), -13, 3);
        due("i beyond, of none", x.copy(0, 4, 1, 0, 0), -13, 3);
        due("j beyond, of none", x.copy(0, 0, 1, 3, 0), -13, 3);
        due("n beyond both", x.copy(0, 0, 1, 0, 4), -13, 3);
        due("n beyond the other", x.copy(0, 0, 1, 0, 3), -13, 3);
        due("n beyond the first", x.copy(1, 0, 0, 0, 3), -13, 3);
        int far = Integer.MAX_VALUE;
        due("i far beyond", x.copy(0, far, 1, 0, 1), -13, 3);
        due("j far beyond", x.copy(0, 0, 1, far, 1), -13, 3);
        due("n far beyond", x.copy(0, 1, 1, 1, far), -13, 3);
        due("n far below 0", x.copy(0, 1, 1, 1, Integer.MIN_VALUE), -13, 3);
        due("i far below 0", x.copy(0, Integer.MIN_VALUE, 1, 0, 1), -13, 3);
        dueCells("the first is as it was", 0, 0, 1, 2, 3);
        dueCells("the other is as it was", 1, 0, 4, 5);
        dueCells("the third is as it was", 2, 1, 6, 7);
    }

    private static void tellAndTrace() {
        x = Check.of("r1991;s0700;d0800;l0900");
        int trace = 0;
        Check.due("trace at first", x.trace(), 0);
        Check.due("tell of a shade", x.tell(0), 7);
        trace = left(trace, 1);
        Check.due("tell of a drowned one", x.tell(1), 108);
        trace = left(trace, 2, 1);
        Check.due("tell of a living one", x.tell(2), 118);
        trace = left(trace, 3, 2, 1, 1);
        Check.due("no shade", x.tell(3), -1);
        Check.due("no shade", x.tell(-1), -1);
        Check.due("who is refused leaves nothing", x.trace(), trace);
        Check.due("left by 1, 2 1, 3 2 1 1", x.trace(), 945776831);
        for (int k = 0; k < 12; k++) {
            x.tell(k % 3);
            trace = k % 3 == 0 ? left(trace, 1) : k % 3 == 1 ? left(trace, 2, 1) : left(trace, 3, 2, 1, 1);
            Check.due("trace wraps", x.trace(), trace);
        }
        Check.bank(x, "r1991;s0700");
        Check.due("a new bank leaves trace", x.trace(), trace);
        Check.due("no shade without a bank", new RowBack().tell(0), -1);
    }

    private static int left(int trace, int... bodies) {
        for (int body : bodies) {
            trace = 31 * trace + body;
        }
        return trace;
    }

    private static void hail() {
        x = Check.of("r1991;l0900;s0700;d0800;l0100");
        Check.due("hail of a living one", x.hail(0), 60);
        Check.due("trace", x.trace(), 5);
        Check.due("hail of a shade", x.hail(1), 1);
        Check.due("trace", x.trace(), 5 * 31 + 4);
        Check.due("hail of a drowned one", x.hail(2), 2);
        Check.due("trace", x.trace(), (5 * 31 + 4) * 31 + 4);
        Check.due("hail of a living one", x.hail(3), 60);
        Check.due("trace", x.trace(), ((5 * 31 + 4) * 31 + 4) * 31 + 5);
        Check.due("no shade", x.hail(4), -1);
        Check.due("no shade", x.hail(-1), -1);
        Check.due("who is refused leaves nothing", x.trace(), ((5 * 31 + 4) * 31 + 4) * 31 + 5);
        Check.due("no shade without a bank", new RowBack().hail(0), -1);
    }

    private static void as() {
        x = Check.of("r1991;s0900;d0900;l0900");
        for (int s = 0; s < 3; s++) {
            for (int kind = 0; kind < 3; kind++) {
                due("as(" + s + ", " + kind + ")", x.as(s, kind), kind <= s ? 1 : -12, kind <= s ? 0 : 2);
            }
            due("kind 3", x.as(s, 3), -2, 0);
            due("kind -1", x.as(s, -1), -2, 0);
        }
        x.as(0, 2);
        due("no shade ahead of kind", x.as(3, 3), -1, 0);
        x.as(0, 2);
        due("no shade", x.as(-1, 0), -1, 0);
        x = new RowBack();
        due("no shade without a bank", x.as(0, 0), -1, 0);
    }

    /** A call that names a fault tells it, or none; all others leave what was told. */
    private static void faultOfTheLatest() {
        x = Check.of("r1991;s2900;l0900");
        Check.row(x, 1, 1, 1, 2);
        Check.due("at first", x.fault(), 0);
        for (int call = 0; call < 24; call++) {
            due("a length below 0", x.sheet(2, 0, -1), -14, 4);
            namesNone(call);
            Check.due("fault after call " + call + ", that names none", x.fault(), 4);
        }
        long[] want = {2, -9, 1, 1, 1, 1, 1, -100, -1, -2, -1, -2, -2, -2, -1, -2, -2, -1, LOST, LOST, -1, -1, -1, -2};
        for (int call = 0; call < want.length; call++) {
            x.sheet(2, 0, -1);
            due("call " + call + ", that comes to none", namesOne(call), want[call], 0);
        }
        x = new RowBack();
        x.sheet(2, 0, -1);
        due("no bank", x.crossings(1, 1, 0, 0), -3, 0);
    }

    private static void namesNone(int call) {
        switch (call) {
            case 0: x.ofShade(9, 9); break;
            case 1: x.law(9); break;
            case 2: x.loan(0, 1, 1); break;
            case 3: x.undo(9); break;
            case 4: x.over(0); break;
            case 5: x.overBy(-1); break;
            case 6: x.rower(0); break;
            case 7: x.sits(0); break;
            case 8: x.waits(9); break;
            case 9: x.allWait(); break;
            case 10: x.least(); break;
            case 11: x.laws(99); break;
            case 12: x.gain(0); break;
            case 13: x.favours(0); break;
            case 14: x.reading(0, 0, true); break;
            case 15: x.back(0); break;
            case 16: x.payers(0); break;
            case 17: x.rules(); break;
            case 18: x.lose(3); break;
            case 19: x.lose(9); break;
            case 20: x.tell(1); break;
            case 21: x.hail(9); break;
            case 22: x.trace(); break;
            default: x.many(9); break;
        }
    }

    private static long namesOne(int call) {
        switch (call) {
            case 0: Check.bank(x, "r1991;s2900;l0900"); x.sheet(2, 0, -1); return x.bank(0, 0, 0, 17);
            case 1: return x.crossings(1, 1, 0, 0);
            case 2: return x.sheet(2, 0, 3);
            case 3: return x.put(1, 0, 1);
            case 4: return x.cell(1, 0, 1);
            case 5: return x.copy(1, 0, 1, 1, 1);
            case 6: return x.as(0, 0);
            case 7: return x.bank(1, 1, 0, 0);
            default: return refused(call);
        }
    }

    private static long refused(int call) {
        switch (call) {
            case 8: return x.bank(4, 1, 0, 0);
            case 9: return x.bank(1, 3, 0, 0);
            case 10: return x.crossings(4, 1, 0, 0);
            case 11: return x.crossings(1, 3, 0, 0);
            case 12: Check.row(x, 3, 0, 4); x.sheet(2, 0, -1); return x.crossings(3, 0, 0, 1);
            case 13: x.sheet(3, 0, 21); x.sheet(2, 0, -1); return x.crossings(3, 0, 0, 21);
            case 14: return x.sheet(4, 0, -1);
            case 15: return x.sheet(0, 3, -1);
            case 16: return x.sheet(0, 0, 61);
            case 17: return x.put(4, 0, 1);
            case 18: return x.cell(4, 0, 1);
            case 19: return x.cell(1, 0, 3);
            case 20: return x.copy(4, 0, 1, 0, 0);
            case 21: return x.copy(1, 0, 4, 0, 0);
            case 22: return x.as(2, 0);
            default: return x.as(0, 3);
        }
    }
}
