import java.util.ArrayList;
import java.util.List;

/**
 * Terms: which refusal or fault of several comes first, that it changes nothing,
 * and what fault() tells behind it. Each refused call is made on an object of its own.
 */
public final class RefusalsTest {
    private static final int UNKNOWN = -1, OUTSIDE = -2, STATE = -3, FULL = -4;
    private static final int NULL = -11, CAST = -12, INDEX = -13, SIZE = -14;
    private static final long LOST = Long.MIN_VALUE;
    /** What fault() tells ahead of each refused call, and behind one that names no FAULTS. */
    private static final int AHEAD = 4;
    private static final int MIN = Integer.MIN_VALUE, MAX = Integer.MAX_VALUE;

    private interface Call {
        long on(RowBack x);
    }

    private record Refused(String call, Call made, long want, int fault) { }

    private static List<Refused> list;

    public static void main(String[] args) {
        ofTheBank();
        ofLoans();
        ofNights();
        ofCrossings();
        ofLawsAndGains();
        ofReadings();
        ofSheets();
        ofCells();
        ofCopy();
        ofParts();
        hold("full", RefusalsTest::fullOne);
        ofNoBank();
        hold("no bank", RefusalsTest::emptyOne);
        Check.end();
    }

    // ---- the two objects that refuse

    /** Four shades, LAW 1, all 6 LOANS and all 6 READINGS; coins are 2, 5, 0, 2. */
    private static RowBack fullOne() {
        RowBack x = Check.of("r2152;s1400;d2501;l3200;s3129");
        for (int k = 0; k < 5; k++) {
            x.loan(k % 2 == 0 ? 3 : 0, k % 2 == 0 ? 0 : 3, 1);
        }
        x.loan(2, 1, 3);
        for (int k = 0; k < 6; k++) {
            x.reading(k % 4, 10 * k, k % 2 == 0);
        }
        x.law(1);
        x.tell(2);
        return withSheets(x);
    }

    private static RowBack emptyOne() {
        RowBack x = new RowBack();
        Check.row(x, 0, 0, 'r', '1');
        return withSheets(x);
    }

    /** Sheet 0 has bytes, 1 has 25 shorts, 2 has ints, but none of them, 3 has nothing. */
    private static RowBack withSheets(RowBack x) {
        x.sheet(1, 1, 25);
        x.put(1, 22, 16);
        x.put(1, 23, -1);
        x.put(1, 24, 1);
        x.sheet(2, 2, 0);
        Check.due("the fault ahead", x.sheet(0, 0, -1), SIZE);
        return x;
    }

    private interface Maker {
        RowBack make();
    }

    private static void hold(String state, Maker maker) {
        String before = picture(maker.make());
        for (Refused each : list) {
            RowBack x = maker.make();
            Check.says("of several the first in the order in which a call's line tells them");
            Check.due(state + ": " + each.call, each.made.on(x), each.want);
            Check.says("fault() tells it; 0: it came to none, or was refused");
            Check.due(state + ": fault() behind " + each.call, x.fault(), each.fault);
            Check.says("They change nothing (but fault(), of a call that names FAULTS)");
            Check.due(state + ": all that can be asked behind " + each.call, picture(x), before);
        }
    }

    /** All that can be asked of an object, but for fault(). */
    private static String picture(RowBack x) {
        StringBuilder told = new StringBuilder();
        for (int what = 0; what < 7; what++) {
            told.append(x.many(what)).append(' ');
        }
        for (int s = 0; s < 5; s++) {
            for (int what = 0; what < 7; what++) {
                told.append(x.ofShade(s, what)).append(' ');
            }
            told.append(x.over(s)).append(' ').append(x.waits(s)).append(' ');
            told.append(x.favours(s)).append(' ').append(x.payers(s)).append(' ');
        }
        for (int night : new int[] {0, 1, 2, 3, 4, 28, 29, 30, 31, 32, 59}) {
            told.append(x.overBy(night)).append(' ').append(x.rower(night)).append(' ').append(x.sits(night)).append(' ');
        }
        told.append(x.allWait()).append(' ').append(x.least()).append(' ').append(x.laws(20)).append(' ');
        told.append(x.gain(0)).append(' ').append(x.gain(1)).append(' ').append(x.rules()).append(' ').append(x.trace());
        for (int k = 0; k < 4; k++) {
            // beside a row's own lane only its first cell: it can't be taken there
            for (int i = 0; i <= 29; i++) {
                told.append(' ').append(x.cell(k, i, k % 3));
            }
            for (int lane = 0; lane < 3; lane++) {
                told.append(' ').append(x.cell(k, 0, lane));
            }
        }
        return told.toString();
    }

    // ---- the calls

    private static void refused(String call, Call made, long want, int fault) {
        list.add(new Refused(call, made, want, fault));
    }

    /** A call that names no FAULTS. */
    private static void refused(String call, Call made, long want) {
        refused(call, made, want, AHEAD);
    }

    private static void ofTheBank() {
        list = new ArrayList<>();
        refused("bank: no sheet, no lane", x -> x.bank(4, 3, -1, -1), UNKNOWN, 0);
        refused("bank: no sheet -1", x -> x.bank(-1, 0, 0, 29), UNKNOWN, 0);
        refused("bank: no lane, nothing", x -> x.bank(3, 3, -1, -1), OUTSIDE, 0);
        refused("bank: no lane, a length below 0", x -> x.bank(0, -1, -1, -1), OUTSIDE, 0);
        refused("bank: cast, a length below 0", x -> x.bank(1, 0, -1, -1), CAST, 2);
        refused("bank: cast, beyond", x -> x.bank(1, 2, 26, 0), CAST, 2);
        refused("bank: cast of a row of no cells", x -> x.bank(2, 0, 0, 0), CAST, 2);
        refused("bank: nothing is no cast, a length below 0", x -> x.bank(3, 0, -1, -1), NULL, 1);
        refused("bank: nothing is no cast", x -> x.bank(3, 2, 0, 0), NULL, 1);
        refused("bank: a length below 0, from below 0", x -> x.bank(0, 0, -1, -1), SIZE, 4);
        refused("bank: a length far below 0", x -> x.bank(0, 0, 0, MIN), SIZE, 4);
        refused("bank: from below 0, none", x -> x.bank(0, 0, -1, 0), INDEX, 3);
        refused("bank: from far below 0", x -> x.bank(0, 0, MIN, MAX), INDEX, 3);
        refused("bank: from beyond, none", x -> x.bank(0, 0, 30, 0), INDEX, 3);
        refused("bank: from beyond in a row of no cells", x -> x.bank(2, 2, 1, 0), INDEX, 3);
        refused("bank: cells beyond, no text", x -> x.bank(1, 1, 1, 25), INDEX, 3);
        refused("bank: cells far beyond", x -> x.bank(1, 1, 25, MAX), INDEX, 3);
        refused("bank: no text", x -> x.bank(1, 1, 0, 25), -100, 0);
        refused("bank: no text of a row of no cells", x -> x.bank(2, 2, 0, 0), -100, 0);
        refused("bank: a text that just ends", x -> x.bank(0, 0, 0, 2), -102, 0);
        for (int s : new int[] {4, -1, MIN, MAX}) {
            refused("ofShade: no shade, no what", x -> x.ofShade(s, 7), UNKNOWN);
        }
        refused("ofShade: 7", x -> x.ofShade(0, 7), OUTSIDE);
        refused("ofShade: -1", x -> x.ofShade(3, -1), OUTSIDE);
        refused("law: 3", x -> x.law(3), OUTSIDE);
        refused("law: -1", x -> x.law(-1), OUTSIDE);
        refused("many: 7", x -> x.many(7), OUTSIDE);
        refused("many: -1", x -> x.many(-1), OUTSIDE);
    }

    private static void ofLoans() {
        refused("loan: no lender, 0 coins", x -> x.loan(4, 0, 0), UNKNOWN);
        refused("loan: no borrower, 4 coins", x -> x.loan(0, 4, 4), UNKNOWN);
        refused("loan: no lender -1", x -> x.loan(-1, 0, 1), UNKNOWN);
        refused("loan: no borrower -1", x -> x.loan(0, -1, 1), UNKNOWN);
        refused("loan: they are one, 0 coins", x -> x.loan(0, 0, 0), UNKNOWN);
        refused("loan: they are one, it has none", x -> x.loan(2, 2, 1), UNKNOWN);
        refused("loan: 0 coins, it has none", x -> x.loan(2, 0, 0), OUTSIDE);
        refused("loan: 4 coins, it has not so many", x -> x.loan(2, 0, 4), OUTSIDE);
        refused("loan: 4 coins, it has as many", x -> x.loan(1, 0, 4), OUTSIDE);
        refused("loan: it has none, full", x -> x.loan(2, 0, 1), STATE);
        refused("loan: it has one less, full", x -> x.loan(0, 1, 3), STATE);
        refused("loan: full", x -> x.loan(0, 1, 2), FULL);
        refused("undo: 7", x -> x.undo(7), OUTSIDE);
        refused("undo: -1", x -> x.undo(-1), OUTSIDE);
        refused("undo: far below 0", x -> x.undo(MIN), OUTSIDE);
    }

    private static void ofNights() {
        for (int s : new int[] {4, -1, MIN, MAX}) {
            refused("over: no shade " + s, x -> x.over(s), UNKNOWN);
            refused("waits: no shade " + s, x -> x.waits(s), UNKNOWN);
            refused("favours: no shade " + s, x -> x.favours(s), UNKNOWN);
            refused("payers: no shade " + s, x -> x.payers(s), UNKNOWN);
            refused("tell: no shade " + s, x -> x.tell(s), UNKNOWN);
            refused("hail: no shade " + s, x -> x.hail(s), UNKNOWN);
        }
        for (int night : new int[] {60, -1, MIN, MAX}) {
            refused("overBy: no night " + night, x -> x.overBy(night), UNKNOWN);
            refused("rower: no night " + night, x -> x.rower(night), UNKNOWN);
            refused("sits: no night " + night, x -> x.sits(night), UNKNOWN);
        }
    }

    private static void ofCrossings() {
        refused("crossings: no sheet, no lane", x -> x.crossings(4, 3, -1, -1), UNKNOWN, 0);
        refused("crossings: no sheet -1", x -> x.crossings(-1, 1, 0, 0), UNKNOWN, 0);
        refused("crossings: no lane, nothing", x -> x.crossings(3, 3, -1, -1), OUTSIDE, 0);
        refused("crossings: no lane -1", x -> x.crossings(1, -1, 0, 0), OUTSIDE, 0);
        refused("crossings: cast, a length below 0", x -> x.crossings(1, 0, -1, -1), CAST, 2);
        refused("crossings: cast, n above 20", x -> x.crossings(1, 2, 0, 21), CAST, 2);
        refused("crossings: nothing is no cast", x -> x.crossings(3, 1, -1, -1), NULL, 1);
        refused("crossings: a length below 0, from beyond", x -> x.crossings(1, 1, 26, -1), SIZE, 4);
        refused("crossings: from below 0, n above 20", x -> x.crossings(1, 1, -1, 21), INDEX, 3);
        refused("crossings: from below 0, none", x -> x.crossings(1, 1, -1, 0), INDEX, 3);
        refused("crossings: from beyond, none", x -> x.crossings(1, 1, 26, 0), INDEX, 3);
        refused("crossings: beyond, n above 20", x -> x.crossings(1, 1, 5, 21), INDEX, 3);
        refused("crossings: far beyond", x -> x.crossings(1, 1, 1, MAX), INDEX, 3);
        refused("crossings: n above 20", x -> x.crossings(1, 1, 0, 21), OUTSIDE, 0);
        refused("crossings: n above 20, a wrong set", x -> x.crossings(1, 1, 4, 21), OUTSIDE, 0);
        refused("crossings: a bit of no shade", x -> x.crossings(1, 1, 22, 1), OUTSIDE, 0);
        refused("crossings: the sign", x -> x.crossings(1, 1, 23, 1), OUTSIDE, 0);
    }

    private static void ofLawsAndGains() {
        refused("laws: 61", x -> x.laws(61), OUTSIDE);
        refused("laws: -1", x -> x.laws(-1), OUTSIDE);
        refused("gain: 2", x -> x.gain(2), OUTSIDE);
        refused("gain: -1", x -> x.gain(-1), OUTSIDE);
        refused("favours: a shade", x -> x.favours(0), STATE);
        refused("favours: a drowned one", x -> x.favours(1), STATE);
    }

    private static void ofReadings() {
        refused("reading: no shade, full", x -> x.reading(4, 0, true), UNKNOWN);
        refused("reading: no shade -1", x -> x.reading(-1, 0, false), UNKNOWN);
        refused("reading: no night, full", x -> x.reading(0, 60, true), UNKNOWN);
        refused("reading: no night -1", x -> x.reading(0, -1, false), UNKNOWN);
        refused("reading: full", x -> x.reading(3, 59, true), FULL);
        refused("back: 7", x -> x.back(7), OUTSIDE);
        refused("back: -1", x -> x.back(-1), OUTSIDE);
        refused("back: far below 0", x -> x.back(MIN), OUTSIDE);
    }

    private static void ofSheets() {
        refused("sheet: no sheet, no lane", x -> x.sheet(4, 3, -1), UNKNOWN, 0);
        refused("sheet: no sheet -1", x -> x.sheet(-1, 0, 1), UNKNOWN, 0);
        refused("sheet: no lane, a length below 0", x -> x.sheet(0, 3, -1), OUTSIDE, 0);
        refused("sheet: no lane -1", x -> x.sheet(0, -1, 1), OUTSIDE, 0);
        refused("sheet: n above 60", x -> x.sheet(0, 0, 61), OUTSIDE, 0);
        refused("sheet: n far above 60", x -> x.sheet(3, 0, MAX), OUTSIDE, 0);
        refused("sheet: a length below 0", x -> x.sheet(0, 0, -1), SIZE, 4);
        refused("sheet: a length far below 0", x -> x.sheet(3, 2, MIN), SIZE, 4);
        refused("lose: no sheet", x -> x.lose(4), UNKNOWN);
        refused("lose: no sheet -1", x -> x.lose(-1), UNKNOWN);
        refused("put: no sheet, below 0", x -> x.put(4, -1, 0), UNKNOWN, 0);
        refused("put: no sheet -1", x -> x.put(-1, 0, 1), UNKNOWN, 0);
        refused("put: nothing, below 0", x -> x.put(3, -1, 5), NULL, 1);
        refused("put: below 0", x -> x.put(0, -1, 5), INDEX, 3);
        refused("put: beyond", x -> x.put(1, 25, 5), INDEX, 3);
        refused("put: beyond in a row of no cells", x -> x.put(2, 0, 5), INDEX, 3);
        refused("put: far beyond", x -> x.put(1, MAX, 5), INDEX, 3);
        refused("put: far below 0", x -> x.put(1, MIN, 5), INDEX, 3);
    }

    private static void ofCells() {
        refused("cell: no sheet, no lane", x -> x.cell(4, -1, 3), LOST, 0);
        refused("cell: no sheet -1", x -> x.cell(-1, 0, 0), LOST, 0);
        refused("cell: no lane, nothing", x -> x.cell(3, -1, 3), LOST, 0);
        refused("cell: no lane -1", x -> x.cell(1, 0, -1), LOST, 0);
        refused("cell: cast, below 0", x -> x.cell(1, -1, 0), LOST, 2);
        refused("cell: cast, beyond", x -> x.cell(1, 25, 2), LOST, 2);
        refused("cell: nothing is no cast", x -> x.cell(3, -1, 0), LOST, 1);
        refused("cell: below 0", x -> x.cell(1, -1, 1), LOST, 3);
        refused("cell: beyond", x -> x.cell(1, 25, 1), LOST, 3);
        refused("cell: beyond in a row of no cells", x -> x.cell(2, 0, 2), LOST, 3);
        refused("cell: far beyond", x -> x.cell(1, MAX, 1), LOST, 3);
        refused("cell: far below 0", x -> x.cell(1, MIN, 1), LOST, 3);
    }

    private static void ofCopy() {
        refused("copy: no sheet", x -> x.copy(4, -1, 3, -1, -1), UNKNOWN, 0);
        refused("copy: no sheet -1", x -> x.copy(-1, 0, 0, 0, 0), UNKNOWN, 0);
        refused("copy: nothing, no other sheet", x -> x.copy(3, -1, 4, -1, -1), UNKNOWN, 0);
        refused("copy: no other sheet -1", x -> x.copy(0, 0, -1, 0, 0), UNKNOWN, 0);
        refused("copy: nothing, below 0", x -> x.copy(3, -1, 1, -1, -1), NULL, 1);
        refused("copy: the other has nothing, below 0", x -> x.copy(1, -1, 3, -1, -1), NULL, 1);
        refused("copy: nothing onto nothing", x -> x.copy(3, 0, 3, 0, 0), NULL, 1);
        refused("copy: unlike lanes, below 0", x -> x.copy(0, -1, 1, -1, -1), CAST, 2);
        refused("copy: unlike lanes, none of no cells", x -> x.copy(0, 0, 2, 0, 0), CAST, 2);
        refused("copy: i below 0", x -> x.copy(1, -1, 1, 0, 1), INDEX, 3);
        refused("copy: j below 0", x -> x.copy(1, 0, 1, -1, 1), INDEX, 3);
        refused("copy: n below 0", x -> x.copy(1, 1, 1, 1, -1), INDEX, 3);
        refused("copy: i below 0, none", x -> x.copy(1, -1, 1, 0, 0), INDEX, 3);
        refused("copy: j below 0, none", x -> x.copy(1, 0, 1, -1, 0), INDEX, 3);
        refused("copy: i beyond, none", x -> x.copy(1, 26, 1, 0, 0), INDEX, 3);
        refused("copy: j beyond, none", x -> x.copy(1, 0, 1, 26, 0), INDEX, 3);
        refused("copy: i and n beyond", x -> x.copy(1, 20, 1, 0, 6), INDEX, 3);
        refused("copy: j and n beyond", x -> x.copy(1, 0, 1, 20, 6), INDEX, 3);
        refused("copy: one of no cells", x -> x.copy(2, 0, 2, 0, 1), INDEX, 3);
        refused("copy: n far beyond", x -> x.copy(1, 1, 1, 1, MAX), INDEX, 3);
        refused("copy: n far below 0", x -> x.copy(1, 1, 1, 1, MIN), INDEX, 3);
        refused("copy: i far beyond", x -> x.copy(1, MAX, 1, 0, MAX), INDEX, 3);
        refused("copy: j far below 0", x -> x.copy(1, 0, 1, MIN, 1), INDEX, 3);
    }

    private static void ofParts() {
        refused("as: no shade, no kind", x -> x.as(4, 3), UNKNOWN, 0);
        refused("as: no shade -1", x -> x.as(-1, 0), UNKNOWN, 0);
        refused("as: no kind", x -> x.as(0, 3), OUTSIDE, 0);
        refused("as: no kind -1", x -> x.as(0, -1), OUTSIDE, 0);
        refused("as: a shade is no drowned one", x -> x.as(0, 1), CAST, 2);
        refused("as: a shade is no living one", x -> x.as(3, 2), CAST, 2);
        refused("as: a drowned one is no living one", x -> x.as(1, 2), CAST, 2);
    }

    private static void ofNoBank() {
        list = new ArrayList<>();
        refused("law: 3", x -> x.law(3), OUTSIDE);
        refused("law: 0", x -> x.law(0), STATE);
        refused("ofShade: no shade, no what", x -> x.ofShade(0, 7), UNKNOWN);
        refused("loan: no shades, 0 coins", x -> x.loan(0, 1, 0), UNKNOWN);
        refused("undo: 1", x -> x.undo(1), OUTSIDE);
        refused("over: no shade", x -> x.over(0), UNKNOWN);
        refused("waits: no shade", x -> x.waits(0), UNKNOWN);
        refused("overBy: no night", x -> x.overBy(60), UNKNOWN);
        refused("overBy: 59", x -> x.overBy(59), STATE);
        refused("rower: no night", x -> x.rower(-1), UNKNOWN);
        refused("rower: 0", x -> x.rower(0), STATE);
        refused("sits: no night", x -> x.sits(60), UNKNOWN);
        refused("sits: 0", x -> x.sits(0), STATE);
        refused("allWait", x -> x.allWait(), STATE);
        refused("crossings: no sheet", x -> x.crossings(4, 0, 0, 0), UNKNOWN, 0);
        refused("crossings: no lane", x -> x.crossings(0, 3, 0, 0), OUTSIDE, 0);
        refused("crossings: nothing", x -> x.crossings(3, 0, -1, -1), STATE, 0);
        refused("crossings: cast", x -> x.crossings(1, 0, -1, -1), STATE, 0);
        refused("crossings: a length below 0", x -> x.crossings(1, 1, 0, -1), STATE, 0);
        refused("crossings: beyond", x -> x.crossings(1, 1, 26, 0), STATE, 0);
        refused("crossings: n above 20", x -> x.crossings(1, 1, 0, 25), STATE, 0);
        refused("crossings: none", x -> x.crossings(1, 1, 0, 0), STATE, 0);
        refused("least", x -> x.least(), STATE);
        refused("laws: 61", x -> x.laws(61), OUTSIDE);
        refused("laws: 60", x -> x.laws(60), STATE);
        refused("gain: 2", x -> x.gain(2), OUTSIDE);
        refused("gain: 0", x -> x.gain(0), STATE);
        refused("gain: 1", x -> x.gain(1), STATE);
        refused("favours: no shade", x -> x.favours(0), UNKNOWN);
        refused("reading: no shade", x -> x.reading(0, 0, true), UNKNOWN);
        refused("back: 1", x -> x.back(1), OUTSIDE);
        refused("payers: no shade", x -> x.payers(0), UNKNOWN);
        refused("rules", x -> x.rules(), STATE);
        refused("tell: no shade", x -> x.tell(0), UNKNOWN);
        refused("hail: no shade", x -> x.hail(0), UNKNOWN);
        refused("as: no shade", x -> x.as(0, 0), UNKNOWN, 0);
        refused("as: no shade, no kind", x -> x.as(0, 3), UNKNOWN, 0);
        refused("many: 7", x -> x.many(7), OUTSIDE);
    }
}
