/** Part 2, nights: promises 7 to 12. */
public final class NightsTest {
    private static final int NONE = -9, FERRYMAN = 9;

    public static void main(String[] args) {
        seatsAndWeight();
        tooHeavy();
        rowersByLaw();
        seatsByLaw();
        rowsAreCountedOverNights();
        kindsPay();
        comingLater();
        nobodyWaits();
        loansAndLawsChangeThem();
        refusals();
        Check.end();
    }

    private static void night(RowBack x, int night, int rower, int sits, int overBy) {
        Check.due("rower(" + night + ")", x.rower(night), rower);
        Check.due("sits(" + night + ")", x.sits(night), sits);
        Check.due("overBy(" + night + ")", x.overBy(night), overBy);
    }

    private static void shade(RowBack x, int s, int over, int waits) {
        Check.due("over(" + s + ")", x.over(s), over);
        Check.due("waits(" + s + ")", x.waits(s), waits);
    }

    private static void seatsAndWeight() {
        // 6 and 7 are more than 10: the second is left out, the third, behind it, makes just 10
        RowBack x = Check.of("r2101;s1600;s1700;s1400;s1100");
        night(x, 0, FERRYMAN, 0b0101, 0b0101);
        night(x, 1, FERRYMAN, 0b1010, 0b1111);
        night(x, 2, NONE, 0, 0b1111);
        shade(x, 0, 0, 0);
        shade(x, 1, 1, 1);
        shade(x, 2, 0, 0);
        shade(x, 3, 1, 1);
        Check.due("allWait", x.allWait(), 2);
        RowBack one = Check.of("r1991;s1100;s1100;s1100");
        night(one, 0, FERRYMAN, 0b001, 0b001);
        night(one, 1, FERRYMAN, 0b010, 0b011);
        night(one, 2, FERRYMAN, 0b100, 0b111);
        RowBack four = Check.of("r4991;s1100;s1100;s1100;s1100;s1100;s1100");
        night(four, 0, FERRYMAN, 0b001111, 0b001111);
        night(four, 1, FERRYMAN, 0b110000, 0b111111);
    }

    private static void tooHeavy() {
        RowBack x = Check.of("r1081;s1900;s1805;s0107");
        night(x, 0, FERRYMAN, 0, 0);
        night(x, 4, FERRYMAN, 0, 0);
        night(x, 5, FERRYMAN, 0b010, 0b010);
        night(x, 6, FERRYMAN, 0, 0b010);
        night(x, 7, 2, 0, 0b110);
        night(x, 8, FERRYMAN, 0, 0b110);
        night(x, 59, FERRYMAN, 0, 0b110);
        shade(x, 0, NONE, 60);
        shade(x, 1, 5, 0);
        shade(x, 2, 7, 0);
        Check.due("allWait", x.allWait(), 60);
        RowBack late = Check.of("r1081;l3929");
        shade(late, 0, NONE, 31);
        Check.due("allWait", late.allWait(), 31);
        night(late, 28, NONE, 0, 0);
        night(late, 29, FERRYMAN, 0, 0);
    }

    private static void rowersByLaw() {
        String text = "r1991;d0402;d1501;d1501;d0300";
        int[][] due = {
            {3, 1, 2, 0, NONE},
            {3, 1, 0, 2, NONE},
            {3, 1, 2, 0, NONE},
        };
        for (int law = 0; law < 3; law++) {
            RowBack x = Check.of(text);
            x.law(law);
            for (int night = 0; night < 5; night++) {
                Check.due("law " + law + " rower(" + night + ")", x.rower(night), due[law][night]);
            }
        }
        // all come at once: the number, the least heavy, the most coins
        String atOnce = "r1991;d0500;d0400;d1500;d1400";
        int[][] dueAtOnce = {{0, 1, 2, 3}, {1, 3, 0, 2}, {2, 3, 0, 1}};
        for (int law = 0; law < 3; law++) {
            RowBack x = Check.of(atOnce);
            x.law(law);
            for (int night = 0; night < 4; night++) {
                Check.due("at once, law " + law + " rower(" + night + ")", x.rower(night), dueAtOnce[law][night]);
            }
        }
        // heavy, not weight: 5 is less than 2 and 2 more, doubled
        RowBack x = Check.of("r1991;l0200;s0500;d0400");
        x.law(1);
        Check.due("the least heavy rows", x.rower(0), 1);
        Check.due("then the drowned one", x.rower(1), 2);
        Check.due("then the living one", x.rower(2), 0);
    }

    private static void seatsByLaw() {
        String text = "r1991;s1900;s2800;s3700;s1600";
        int[][] due = {{1, 2, 4, 8}, {8, 4, 2, 1}, {4, 2, 1, 8}};
        for (int law = 0; law < 3; law++) {
            RowBack x = Check.of(text);
            x.law(law);
            for (int night = 0; night < 4; night++) {
                Check.due("law " + law + " sits(" + night + ")", x.sits(night), due[law][night]);
                Check.due("law " + law + " rower(" + night + ")", x.rower(night), FERRYMAN);
            }
        }
    }

    private static void rowsAreCountedOverNights() {
        // by weight: 0 rows on night 0, then 1 on 1 and 2, then 0 once more
        RowBack x = Check.of("r1992;s0900;s0101");
        x.law(1);
        night(x, 0, 0, 0, 0);
        night(x, 1, 1, 0, 0);
        night(x, 2, 1, 0, 0b10);
        night(x, 3, 0, 0, 0b11);
        night(x, 4, NONE, 0, 0b11);
        shade(x, 0, 3, 3);
        shade(x, 1, 2, 1);
        Check.due("allWait", x.allWait(), 4);
        for (int rows = 1; rows <= 4; rows++) {
            shade(Check.of("r101" + rows + ";s0903"), 0, rows + 2, rows - 1);
        }
        // who rows does not count: neither his seat nor his weight
        RowBack full = Check.of("r1054;s0900;s1500;s1500");
        night(full, 0, 0, 0b010, 0b010);
        night(full, 1, 0, 0b100, 0b110);
        night(full, 2, 0, 0, 0b110);
        night(full, 3, 0, 0, 0b111);
    }

    private static void kindsPay() {
        RowBack x = Check.of("r4991;s0100;s1100;d1100;d2100;l2100;l3100");
        night(x, 0, 0, 0b101010, 0b101011);
        night(x, 1, 2, 0, 0b101111);
        night(x, 2, 4, 0, 0b111111);
        night(x, 3, NONE, 0, 0b111111);
        // a drowned one weighs 2 more, a living one the double of that
        shade(Check.of("r1031;d2100"), 0, 0, 0);
        shade(Check.of("r1021;d2100"), 0, NONE, 60);
        shade(Check.of("r1061;l3100"), 0, 0, 0);
        shade(Check.of("r1051;l3100"), 0, NONE, 60);
        shade(Check.of("r1011;s1100"), 0, 0, 0);
    }

    private static void comingLater() {
        RowBack x = Check.of("r1991;s1129;s1100;s0110");
        night(x, 0, FERRYMAN, 0b010, 0b010);
        night(x, 1, NONE, 0, 0b010);
        night(x, 9, NONE, 0, 0b010);
        night(x, 10, 2, 0, 0b110);
        night(x, 28, NONE, 0, 0b110);
        night(x, 29, FERRYMAN, 0b001, 0b111);
        night(x, 30, NONE, 0, 0b111);
        shade(x, 0, 29, 0);
        Check.due("allWait", x.allWait(), 0);
    }

    private static void nobodyWaits() {
        RowBack x = Check.of("r1991;s1105");
        for (int night = 0; night < 60; night++) {
            if (night == 5) night(x, night, FERRYMAN, 1, 1);
            else night(x, night, NONE, 0, night < 5 ? 0 : 1);
        }
    }

    private static void loansAndLawsChangeThem() {
        RowBack x = Check.of("r1992;s3100;s0100");
        night(x, 0, 1, 0b01, 0b01);
        Check.due("allWait", x.allWait(), 1);
        x.loan(0, 1, 2);
        night(x, 0, FERRYMAN, 0b01, 0b01);
        night(x, 1, FERRYMAN, 0b10, 0b11);
        x.law(2);
        night(x, 0, FERRYMAN, 0b10, 0b10);
        shade(x, 0, 1, 1);
        x.undo(1);
        night(x, 0, 1, 0b01, 0b01);
        shade(x, 0, 0, 0);
        x.loan(0, 1, 3);
        night(x, 0, 0, 0b10, 0b10);
        night(x, 1, 0, 0, 0b11);
        // questions that try other laws and loans leave the nights as they are
        x.laws(3);
        x.rules();
        x.gain(0);
        x.payers(0);
        x.least();
        night(x, 0, 0, 0b10, 0b10);
        night(x, 1, 0, 0, 0b11);
    }

    private static void refusals() {
        RowBack none = new RowBack();
        RowBack x = Check.of("r1991;s1100;s1100");
        for (int night : new int[] {-1, 60, Integer.MIN_VALUE, Integer.MAX_VALUE}) {
            for (RowBack each : new RowBack[] {none, x}) {
                Check.due("overBy(" + night + ")", each.overBy(night), -1);
                Check.due("rower(" + night + ")", each.rower(night), -1);
                Check.due("sits(" + night + ")", each.sits(night), -1);
            }
        }
        for (int night = 0; night < 60; night += 59) {
            Check.due("overBy without a bank", none.overBy(night), -3);
            Check.due("rower without a bank", none.rower(night), -3);
            Check.due("sits without a bank", none.sits(night), -3);
        }
        Check.due("allWait without a bank", none.allWait(), -3);
        for (int s : new int[] {-1, 2, 6, Integer.MIN_VALUE, Integer.MAX_VALUE}) {
            Check.due("over(" + s + ")", x.over(s), -1);
            Check.due("waits(" + s + ")", x.waits(s), -1);
        }
        Check.due("over without a bank", none.over(0), -1);
        Check.due("waits without a bank", none.waits(0), -1);
    }
}
