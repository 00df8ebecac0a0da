/** Part 1, sentence by sentence: what a TEXT may be, its FIRST FAULT, what it makes anew, PAYS and HEAVY. */
public final class BankEdgesTest {
    private static final String SIX = "r1011;s0100;s0100;s0100;s0100;s0100;s0100";

    public static void main(String[] args) {
        leastAndMostOfEach();
        codesBesideTheLeastAndTheMost();
        oneToSixShades();
        firstFaultOf00();
        seventhShade();
        endsTooSoon();
        firstOfSeveral();
        placesAreFromI();
        takenAsARowOfALane();
        makesAllAnew();
        leavesSheetsAndTrace();
        notTaken();
        smallerBankBehindABigger();
        paysAndHeavy();
        loansAtTheirEdges();
        loansNumbers();
        undoAtItsEdges();
        lawBecomes();
        manyWithoutABank();
        Check.end();
    }

    private static void leastAndMostOfEach() {
        Check.says("r, a digit 1 .. 4 (SEATS), two digits 01 .. 99 (BEARS), a digit 1 .. 4 (ROWS)");
        dueMany(Check.of("r1011;s0100"), 1, 1, 1);
        dueMany(Check.of("r4994;s0100"), 4, 99, 4);
        dueMany(Check.of("r2092;s0100"), 2, 9, 2);
        dueMany(Check.of("r3103;s0100"), 3, 10, 3);
        Check.says("a letter, a digit 0 .. 3 (COINS), a digit 1 .. 9 (WEIGHT), two digits 00 .. 29 (the NIGHT)");
        dueShade(Check.of("r1011;s0100"), 0, 0, 1, 0);
        dueShade(Check.of("r1011;d1209"), 1, 1, 2, 9);
        dueShade(Check.of("r1011;d2810"), 1, 2, 8, 10);
        dueShade(Check.of("r1011;l3929"), 2, 3, 9, 29);
    }

    private static void dueMany(RowBack x, int seats, int bears, int rows) {
        Check.due("SEATS", x.many(1), seats);
        Check.due("BEARS", x.many(2), bears);
        Check.due("ROWS", x.many(3), rows);
    }

    private static void dueShade(RowBack x, int kind, int coins, int weight, int night) {
        Check.due("kind", x.ofShade(0, 0), kind);
        Check.due("COINS", x.ofShade(0, 1), coins);
        Check.due("WEIGHT", x.ofShade(0, 2), weight);
        Check.due("NIGHT", x.ofShade(0, 3), night);
    }

    private static void codesBesideTheLeastAndTheMost() {
        Check.says("the place (from 0 on) of the first code with which no TEXT goes on");
        dueAt(0, "qs", 'r');
        dueAt(1, "05", '1', '4');
        dueAt(2, "/:", '0', '9');
        dueAt(3, "/:", '1', '9');
        // behind a first digit that is not 0, too
        Check.due("BEARS 1 and the code ahead of the digits", Check.bank(new RowBack(), "r11/1;s0100"), -103);
        Check.due("BEARS 1 and the code behind the digits", Check.bank(new RowBack(), "r11:1;s0100"), -103);
        dueAt(4, "05", '1', '4');
        for (int part = 5; part < SIX.length(); part += 6) {
            dueAt(part, ":<", ';');
            dueAt(part + 1, "rtcekmSDL", 's', 'd', 'l');
            dueAt(part + 2, "/4", '0', '3');
            dueAt(part + 3, "0:", '1', '9');
            dueAt(part + 4, "/3", '0', '2');
            dueAt(part + 5, "/:", '0', '9');
        }
    }

    /** Of a whole text with one code put into it. */
    private static void dueAt(int place, String wrong, char... right) {
        for (int k = 0; k < wrong.length(); k++) {
            String text = with(place, wrong.charAt(k));
            Check.due("bank of " + text, Check.bank(new RowBack(), text), -100 - place);
        }
        for (char code : right) {
            String text = with(place, code);
            Check.due("bank of " + text, Check.bank(new RowBack(), text), 6);
        }
    }

    private static String with(int place, char code) {
        return SIX.substring(0, place) + code + SIX.substring(place + 1);
    }

    private static void oneToSixShades() {
        Check.says("then 1 to 6 SHADES, numbered from 0 on");
        Check.due("no shade", Check.bank(new RowBack(), "r1011"), -105);
        for (int shades = 1; shades <= 6; shades++) {
            RowBack x = new RowBack();
            Check.due("so many shades", Check.bank(x, SIX.substring(0, 5 + 6 * shades)), shades);
            Check.due("the last one", x.ofShade(shades - 1, 2), 1);
            Check.due("none behind it", x.ofShade(shades, 2), -1);
        }
    }

    private static void firstFaultOf00() {
        Check.says("(of 00 the second one)");
        Check.due("BEARS 00", Check.bank(new RowBack(), "r1001;s0100"), -103);
        Check.due("BEARS 00, and no more", Check.bank(new RowBack(), "r100"), -103);
        Check.due("BEARS 00, and wrong behind it", Check.bank(new RowBack(), "r100x"), -103);
        Check.due("BEARS 0 and no digit", Check.bank(new RowBack(), "r10x1;s0100"), -103);
        Check.due("BEARS 0, and no more", Check.bank(new RowBack(), "r10"), -103);
        Check.due("BEARS 01", Check.bank(new RowBack(), "r1011;s0100"), 1);
        Check.due("BEARS 10", Check.bank(new RowBack(), "r1101;s0100"), 1);
        Check.due("NIGHT 00 is one", Check.bank(new RowBack(), "r1011;s0100"), 1);
    }

    private static void seventhShade() {
        Check.says("(the ; of a seventh SHADE)");
        Check.due("a seventh shade", Check.bank(new RowBack(), SIX + ";s0100"), -141);
        Check.due("its ; alone", Check.bank(new RowBack(), SIX + ";"), -141);
        Check.due("another code there", Check.bank(new RowBack(), SIX + "0"), -141);
        Check.due("the sixth shade", Check.bank(new RowBack(), SIX), 6);
    }

    private static void endsTooSoon() {
        Check.says("how many codes there are, if it just ends too soon");
        for (int n = 0; n <= SIX.length(); n++) {
            boolean whole = n > 5 && (n - 5) % 6 == 0;
            Check.due("the first " + n + " codes", Check.bank(new RowBack(), SIX.substring(0, n)), whole ? (n - 5) / 6 : -100 - n);
        }
        Check.due("none of a row that has some", takenFrom(0, "r1011;s0100", 0), -100);
        Check.due("a wrong one as the last", Check.bank(new RowBack(), "r1011;s010"  + "x"), -110);
    }

    /** So many cells of a row that has more. */
    private static int takenFrom(int i, String row, int n) {
        RowBack x = new RowBack();
        Check.row(x, 1, 1, Check.codes(row));
        return x.bank(1, 1, i, n);
    }

    private static void firstOfSeveral() {
        Check.says("FIRST FAULT: the place of the first code");
        Check.due("two wrong codes", Check.bank(new RowBack(), "r5x11;s0100"), -101);
        Check.due("a wrong code, and it ends too soon", Check.bank(new RowBack(), "r1011;s4"), -107);
        Check.due("a wrong code ahead of a seventh shade", Check.bank(new RowBack(), SIX.replace("s", "x") + ";"), -106);
    }

    private static void placesAreFromI() {
        Check.says("A BANK by a TEXT of n cells of a SHEET from i on");
        Check.due("places are told from i on", takenFrom(3, "xxxr1011;x0100", 11), -106);
        Check.due("cells ahead of i are not asked", takenFrom(3, "xxxr1011;s0100", 11), 1);
        Check.due("cells behind are not asked", takenFrom(0, "r1011;s0100xxx", 11), 1);
        Check.due("cells behind are not asked", takenFrom(3, "xxxr1011;s0100;s0100", 11), 1);
        Check.due("up to the end", takenFrom(3, "xxxr1011;s0100;s0100", 17), 2);
        Check.due("it ends too soon, told from i on", takenFrom(3, "xxxr1011;s0100", 10), -110);
        RowBack x = new RowBack();
        Check.row(x, 3, 2, new int[60]);
        Check.due("a row of 60", x.bank(3, 2, 0, 60), -100);
        Check.due("none at the end of 60", x.bank(3, 2, 60, 0), -100);
    }

    private static void takenAsARowOfALane() {
        Check.says("taken as a row of a LANE; what comes to a cell of it is cut to its LANE");
        int[] far = Check.codes("r1011;s0100");
        far[0] += 256;
        far[10] -= 65536;
        for (int lane = 0; lane < 3; lane++) {
            RowBack x = new RowBack();
            Check.row(x, lane, lane, far);
            Check.due("r and 256 more, lane " + lane, x.bank(lane, lane, 0, 11), lane == 0 ? 1 : -100);
            x.put(lane, 0, 'r');
            Check.due("0 and 65536 less, lane " + lane, x.bank(lane, lane, 0, 11), lane < 2 ? 1 : -110);
        }
    }

    private static RowBack busy() {
        RowBack x = Check.of("r2503;s3100;s0100;l3200");
        x.law(2);
        x.loan(0, 1, 2);
        x.reading(0, 0, true);
        x.tell(2);
        return x;
    }

    private static void makesAllAnew() {
        Check.says("A TEXT that is taken makes all anew: the LAW is 0, no LOANS, no READINGS");
        RowBack x = busy();
        Check.due("the same text once more", Check.bank(x, "r2503;s3100;s0100;l3200"), 3);
        for (int what = 4; what < 7; what++) {
            Check.due("many(" + what + ")", x.many(what), 0);
        }
        Check.due("COINS now", x.ofShade(0, 6) * 10 + x.ofShade(1, 6), 30);
        Check.due("nights by LAW 0 without LOANS", x.sits(0), 5);
        Check.due("it rows, that has none", x.rower(0), 1);
        Check.due("no LOAN is left to take back", x.undo(1), -2);
        Check.due("no READING is left to take back", x.back(1), -2);
        Check.due("RULES of no READINGS", x.rules(), 7);
        Check.due("the first LOAN's number", x.loan(0, 1, 1), 0);
        Check.due("the first READING's number", x.reading(0, 0, true), 0);
    }

    private static void leavesSheetsAndTrace() {
        Check.says("but for SHEETS and TRACE");
        RowBack x = busy();
        int trace = x.trace();
        Check.row(x, 2, 2, -7, 70000);
        Check.bank(x, "r1011;s0100");
        Check.due("TRACE", x.trace(), trace);
        Check.due("a cell", x.cell(2, 0, 2), -7);
        Check.due("a cell", x.cell(2, 1, 2), 70000);
        Check.due("the text itself", x.cell(0, 10, 0), '0');
        Check.due("there is no more of it", x.cell(0, 11, 0), Long.MIN_VALUE);
        Check.due("the fourth has nothing", x.lose(3), 0);
        x.put(0, 0, 'x');
        Check.due("the BANK does not ask the SHEET again", x.many(0), 1);
    }

    private static void notTaken() {
        Check.says("A TEXT that is taken makes all anew");
        RowBack x = busy();
        Check.due("a text that is not taken", Check.bank(x, "r1011;s01"), -109);
        Check.due("fault()", x.fault(), 0);
        Check.due("SHADES", x.many(0), 3);
        Check.due("SEATS, BEARS, ROWS", x.many(1) * 1000 + x.many(2) * 10 + x.many(3), 2503);
        Check.due("LOANS, READINGS, LAW", x.many(4) * 100 + x.many(5) * 10 + x.many(6), 112);
        RowBack none = new RowBack();
        Check.due("a text that is not taken", Check.bank(none, "r1011"), -105);
        Check.due("there is still no BANK", none.allWait(), -3);
    }

    private static void smallerBankBehindABigger() {
        Check.says("A TEXT that is taken makes all anew");
        RowBack x = Check.of("r4992;s3900;s3900;s3900;s3900;s3900;s3900");
        x.law(2);
        Check.bank(x, "r1992;s0100;s0900");
        Check.due("nobody who has a coin is left", x.gain(0), -9);
        Check.due("nobody who has a coin is left", x.payers(0), 0);
        Check.due("all wait", x.allWait(), 1 + 3);
        Check.due("nobody sits on a night on which nobody waits", x.sits(0) + x.sits(1) + x.sits(59), 0);
        Check.due("who is over", x.overBy(59), 3);
        Check.due("least", x.least(), 120);
        Check.due("a third shade is none", Check.crossings(x, 4), -2);
        Check.due("no loan of one who is gone", x.loan(5, 0, 1), -1);
        Check.due("no reading of one who is gone", x.reading(5, 0, true), -1);
        Check.bank(x, "r2091;s1100;s1800");
        Check.due("no more HEAVY than the boat BEARS now", Check.crossings(x, 3), -9);
        Check.due("all wait", x.allWait(), 0);
        Check.bank(x, "r2081;s1100;s1800");
        Check.due("more HEAVY than the boat BEARS now", Check.crossings(x, 3), 0);
        Check.due("all wait", x.allWait(), 1);
    }

    private static void paysAndHeavy() {
        Check.says("PAYS: a SHADE 1; a DROWNED one 2; a LIVING one 3. HEAVY: WEIGHT; 2 more; the double of that");
        int[] least = {1, 3, 6};
        int[] most = {9, 11, 22};
        for (int kind = 0; kind < 3; kind++) {
            char letter = "sdl".charAt(kind);
            RowBack x = Check.of("r1011;" + letter + "0100;" + letter + "3900");
            for (int s = 0; s < 2; s++) {
                Check.due("kind", x.ofShade(s, 0), kind);
                Check.due("PAYS", x.ofShade(s, 4), kind + 1);
            }
            Check.due("HEAVY of WEIGHT 1", x.ofShade(0, 5), least[kind]);
            Check.due("HEAVY of WEIGHT 9", x.ofShade(1, 5), most[kind]);
            Check.due("WEIGHT stays as told", x.ofShade(1, 2), 9);
        }
    }

    private static void loansAtTheirEdges() {
        Check.says("A LOAN of COINS (1 .. 3); STATE: it has not so many");
        for (int has = 0; has <= 3; has++) {
            for (int coins = 0; coins <= 4; coins++) {
                RowBack x = Check.of("r1011;s" + has + "100;s0100");
                int want = coins < 1 || coins > 3 ? -2 : coins > has ? -3 : 0;
                Check.due("of " + has + " coins a loan of " + coins, x.loan(0, 1, coins), want);
                int lent = want == 0 ? coins : 0;
                Check.due("COINS now", x.ofShade(0, 6) * 10 + x.ofShade(1, 6), (has - lent) * 10 + lent);
                Check.due("COINS as told", x.ofShade(0, 1) * 10 + x.ofShade(1, 1), has * 10);
            }
        }
        RowBack x = Check.of("r1011;s3100;s3100;s3100;s3100;s0100");
        for (int from = 0; from < 4; from++) {
            x.loan(from, 4, 3);
        }
        Check.due("COINS may be more than 9", x.ofShade(4, 6), 12);
        Check.due("it lends what it borrowed", x.loan(4, 0, 3), 4);
    }

    private static void loansNumbers() {
        Check.says("LOANS, 6 at most, each numbered by how many there are ahead of it (the first one 0)");
        RowBack x = Check.of("r1011;s3100;s3100");
        for (int k = 0; k < 6; k++) {
            Check.due("LOANS ahead of it", x.many(4), k);
            Check.due("its number", x.loan(k % 2, 1 - k % 2, 1), k);
        }
        Check.due("a seventh one", x.loan(0, 1, 1), -4);
        Check.due("there are 6", x.many(4), 6);
        Check.due("one is taken back", x.undo(1), 5);
        Check.due("there is room for one", x.loan(0, 1, 1), 5);
        Check.due("and not for more", x.loan(0, 1, 1), -4);
    }

    private static void undoAtItsEdges() {
        Check.says("The last k LOANS (0 .. as many as there are) are taken back: how many are left");
        RowBack x = Check.of("r1011;s3100;s0100");
        Check.due("0 of none", x.undo(0), 0);
        Check.due("1 of none", x.undo(1), -2);
        for (int k = 0; k < 6; k++) {
            x.loan(k % 2, 1 - k % 2, 1);
        }
        Check.due("1 more than there are", x.undo(7), -2);
        Check.due("-1", x.undo(-1), -2);
        Check.due("none is taken back", x.undo(0), 6);
        Check.due("the last one", x.undo(1), 5);
        Check.due("COINS now", x.ofShade(0, 6) * 10 + x.ofShade(1, 6), 21);
        Check.due("as many as there are", x.undo(5), 0);
        Check.due("COINS as told", x.ofShade(0, 6) * 10 + x.ofShade(1, 6), 30);
        Check.due("nights without them", x.rower(0), 1);
        Check.due("without a BANK there are none", new RowBack().undo(0), 0);
    }

    private static void lawBecomes() {
        Check.says("The LAW becomes v: what it was");
        RowBack x = Check.of("r1011;s0100");
        Check.due("of a new BANK", x.law(0), 0);
        Check.due("0 to 2", x.law(2), 0);
        Check.due("2 to 2", x.law(2), 2);
        Check.due("3 is none", x.law(3), -2);
        Check.due("-1 is none", x.law(-1), -2);
        Check.due("2 to 0", x.law(0), 2);
        Check.due("without a BANK", new RowBack().law(2), -3);
    }

    private static void manyWithoutABank() {
        Check.says("(0 all without a BANK). OUTSIDE");
        RowBack x = new RowBack();
        for (int what = 0; what <= 6; what++) {
            Check.due("many(" + what + ")", x.many(what), 0);
        }
        Check.due("many(7)", x.many(7), -2);
        Check.due("many(-1)", x.many(-1), -2);
        Check.due("many(far)", x.many(Integer.MIN_VALUE), -2);
    }
}
