/** Part 3, crossings and laws: promises 13 to 15. */
public final class CrossingsTest {
    private static final int NONE = -9;

    public static void main(String[] args) {
        crossings();
        crossingsByLanes();
        crossingsRefuse();
        least();
        leastIsNotByTheLaw();
        ofASecondBank();
        laws();
        Check.end();
    }

    private static void crossings() {
        RowBack x = Check.of("r2101;s1600;s1700;s1401;s0100;d2803");
        Check.due("no crossings", Check.crossings(x), NONE);
        Check.due("empty ones", Check.crossings(x, 0, 0, 0), NONE);
        Check.due("one by one", Check.crossings(x, 1, 2, 4, 16), NONE);
        Check.due("just what the boat bears", Check.crossings(x, 0, 0b101), NONE);
        Check.due("more than the boat bears", Check.crossings(x, 0, 0b110), 1);
        Check.due("more than the boat bears", Check.crossings(x, 0b011), 0);
        Check.due("has not come", Check.crossings(x, 0b101), 0);
        Check.due("has not come", Check.crossings(x, 1, 0, 16), 2);
        Check.due("has come", Check.crossings(x, 1, 0, 0, 16), NONE);
        Check.due("is over", Check.crossings(x, 1, 0b101), 1);
        Check.due("is over long ago", Check.crossings(x, 1, 0, 4, 0, 1), 4);
        Check.due("has not what it pays", Check.crossings(x, 2, 8), 1);
        Check.due("the first of two wrong ones", Check.crossings(x, 2, 2, 8), 1);
        RowBack seats = Check.of("r2991;s1100;s1100;s1100");
        Check.due("as many as seats", Check.crossings(seats, 0b101), NONE);
        Check.due("more than seats", Check.crossings(seats, 0b111), 0);
        RowBack pays = Check.of("r4991;s1100;d1100;d2100;l2100;l3100");
        Check.due("who pays", Check.crossings(pays, 0b10101), NONE);
        Check.due("a drowned one with 1", Check.crossings(pays, 0, 2), 1);
        Check.due("a living one with 2", Check.crossings(pays, 0, 0, 8), 2);
        pays.loan(4, 1, 1);
        Check.due("with a coin lent to it", Check.crossings(pays, 2), NONE);
        Check.due("with a coin lent by it", Check.crossings(pays, 16), 0);
        pays.law(2);
        Check.due("whatever the law", Check.crossings(pays, 2, 4, 1), NONE);
        Check.due("by what is heavy", Check.crossings(Check.of("r1051;l3100"), 1), 0);
        Check.due("nothing is kept", Check.crossings(x, 1) + Check.crossings(x, 1), 2 * NONE);
    }

    private static void crossingsByLanes() {
        for (int lane = 0; lane < 3; lane++) {
            RowBack x = Check.of("r1991;s1100;s1100");
            Check.row(x, 2, lane, 9, 1, 2, 1);
            Check.due("from 1 on", x.crossings(2, lane, 1, 2), NONE);
            Check.due("from 1 on", x.crossings(2, lane, 1, 3), 2);
            Check.due("from 0 on", x.crossings(2, lane, 0, 1), -2);
        }
    }

    private static void crossingsRefuse() {
        RowBack none = new RowBack();
        Check.row(none, 1, 1, 0, 0);
        due(none, "no sheet", none.crossings(4, 3, 0, 0), -1, 0);
        due(none, "no lane", none.crossings(1, 3, 0, 0), -2, 0);
        due(none, "no bank ahead of faults", none.crossings(1, 0, 0, 0), -3, 0);
        due(none, "no bank ahead of faults", none.crossings(2, 0, 0, 0), -3, 0);
        RowBack x = Check.of("r4991;s1100;s1100;s1100");
        Check.row(x, 1, 1, new int[60]);
        x.put(1, 58, 8);
        x.put(1, 59, -1);
        due(x, "no sheet", x.crossings(-1, 1, 0, 0), -1, 0);
        due(x, "no sheet ahead of lane", x.crossings(4, 3, 0, 0), -1, 0);
        due(x, "no lane ahead of faults", x.crossings(2, 3, -1, -1), -2, 0);
        due(x, "no lane", x.crossings(1, -1, 0, 0), -2, 0);
        due(x, "nothing", x.crossings(2, 0, -1, -1), -11, 1);
        due(x, "another lane", x.crossings(1, 0, -1, -1), -12, 2);
        due(x, "a length below 0", x.crossings(1, 1, -1, -1), -14, 4);
        due(x, "from below 0", x.crossings(1, 1, -1, 1), -13, 3);
        due(x, "beyond, ahead of too many", x.crossings(1, 1, 0, 61), -13, 3);
        due(x, "from beyond", x.crossings(1, 1, 61, 0), -13, 3);
        due(x, "far beyond", x.crossings(1, 1, 1, Integer.MAX_VALUE), -13, 3);
        due(x, "from the end", x.crossings(1, 1, 60, 0), NONE, 0);
        due(x, "20", x.crossings(1, 1, 0, 20), NONE, 0);
        due(x, "21", x.crossings(1, 1, 0, 21), -2, 0);
        due(x, "a bit of no shade", x.crossings(1, 1, 58, 1), -2, 0);
        due(x, "a cell below 0", x.crossings(1, 1, 59, 1), -2, 0);
        due(x, "such a cell is not taken", x.crossings(1, 1, 38, 20), NONE, 0);
        due(x, "such a cell is the last", x.crossings(1, 1, 39, 20), -2, 0);
        Check.row(x, 1, 1, 1, 1, 64);
        due(x, "a bit of no shade behind a wrong set", x.crossings(1, 1, 0, 3), -2, 0);
        due(x, "a wrong set", x.crossings(1, 1, 0, 2), 1, 0);
        Check.row(x, 1, 2, Integer.MIN_VALUE, 1 << 16);
        due(x, "the sign's bit", x.crossings(1, 2, 0, 1), -2, 0);
        due(x, "a far bit", x.crossings(1, 2, 1, 1), -2, 0);
        RowBack six = Check.of("r4991;s1100;s1100;s1100;s1100;s1100;s1100");
        Check.due("the sixth shade", Check.crossings(six, 32, 31 & 15, 16), NONE);
        Check.due("there is no seventh", Check.crossings(six, 64), -2);
    }

    private static void due(RowBack x, String call, int got, int want, int fault) {
        Check.due("crossings: " + call, got, want);
        Check.due("fault after crossings: " + call, x.fault(), fault);
    }

    private static void least() {
        Check.due("least without a bank", new RowBack().least(), -3);
        Check.due("one who pays", Check.of("r1991;s1107").least(), 0);
        Check.due("one who has none", Check.of("r1991;s0107").least(), 53);
        Check.due("one who is too heavy", Check.of("r1051;l3107").least(), 53);
        Check.due("one by one", Check.of("r1991;s1100;s1100;s1100").least(), 3);
        Check.due("six by one seat", Check.of("r1991;s1100;s1100;s1100;s1100;s1100;s1100").least(), 15);
        Check.due("six by two seats", Check.of("r2991;s1100;s1100;s1100;s1100;s1100;s1100").least(), 6);
        Check.due("six on the last night", Check.of("r1991;s1129;s1129;s1129;s1129;s1129;s1129").least(), 15);
        // 6 with 4 and 5 with 5 fill the boat twice; 6 with 5 may not
        Check.due("pairs that fill the boat", Check.of("r2101;s1600;s1500;s1500;s1400").least(), 2);
        Check.due("nobody over", Check.of("r1991;s0100;d1110;l2129").least(), 60 + 50 + 31);
    }

    private static void ofASecondBank() {
        RowBack x = Check.of("r2201;s1900;s1900");
        Check.bank(x, "r2101;s1105;s1905;s0100");
        Check.due("not the first bank's nights", Check.crossings(x, 1), 0);
        Check.due("not the first bank's weights", Check.crossings(x, 0, 0, 0, 0, 0, 3), NONE);
        Check.due("least", x.least(), 60);
        Check.due("all wait", x.allWait(), 0);
    }

    private static void leastIsNotByTheLaw() {
        RowBack x = Check.of("r3091;s1500;s1500;s1300;s1300;s1300");
        Check.due("three light ones first", x.least(), 0 + 1 + 2);
        Check.due("by the law", x.allWait(), 0 + 1 + 0 + 1 + 2);
        RowBack one = Check.of("r1991;s1100;s0110");
        Check.due("who has none is never over by the ferryman", one.least(), 50);
        one.loan(0, 1, 1);
        Check.due("the other one pays now", one.least(), 60);
        RowBack lent = Check.of("r1991;s2100;s0100");
        lent.loan(0, 1, 1);
        Check.due("both pay now", lent.least(), 1);
        lent.law(2);
        Check.due("least does not ask the law", lent.least(), 1);
    }

    private static void laws() {
        RowBack none = new RowBack();
        Check.due("laws(61) without a bank", none.laws(61), -2);
        Check.due("laws(-1) without a bank", none.laws(-1), -2);
        Check.due("laws(0) without a bank", none.laws(0), -3);
        // law 0: 9 and 1, then 5 and 5; law 1: 1 and 5, then 5, then 9; law 2: 5 and 5, then 9 and 1
        RowBack x = Check.of("r2101;s1900;s3500;s2500;s1100");
        Check.due("laws(0)", x.laws(0), 0);
        Check.due("laws(1)", x.laws(1), 0b101);
        Check.due("laws(2)", x.laws(2), 0b111);
        Check.due("laws(61)", x.laws(61), -2);
        Check.due("laws(-1)", x.laws(-1), -2);
        x.law(2);
        Check.due("whatever the law", x.laws(1), 0b101);
        Check.due("the law stays", x.many(6), 2);
        // with two coins lent by the one of 5 to the one of 1, law 2 is: 1 and 5, then 5, then 9
        x.loan(1, 3, 2);
        Check.due("laws(1) by loans", x.laws(1), 0b001);
        Check.due("nobody waits", Check.of("r2991;s1100;s1100;s1101").laws(0), 7);
        RowBack never = Check.of("r1051;s1901;s1100");
        Check.due("one waits for 59 nights", never.laws(58), 0);
        Check.due("one waits for 59 nights", never.laws(59), 7);
        Check.due("all", Check.of("r1051;s1900").laws(60), 7);
        Check.due("none", Check.of("r1051;s1900").laws(59), 0);
    }
}
