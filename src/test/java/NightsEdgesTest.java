/** Part 2, sentence by sentence: NIGHTS, the LAW's row, the ROWER, those who sit, WAITS. */
public final class NightsEdgesTest {
    private static final int UNKNOWN = -1, STATE = -3, NONE = -9, FERRYMAN = 9;

    public static void main(String[] args) {
        nights0To59();
        comeByThen();
        lawsAndTheirTies();
        rowerHasLessThanOnePays();
        ferrymanIfThereIsNone();
        seatLeft();
        noMoreHeavy();
        leftOut();
        rowerDoesNotCount();
        rowsIfNobodySits();
        rowedRowsTimes();
        rowsCountOverNights();
        nobodyWaits();
        nobodySits();
        neverOver();
        waits();
        latestOfAll();
        withoutABank();
        byLoans();
        Check.end();
    }

    private static void night(RowBack x, int night, int rower, int sits, int overBy) {
        Check.due("rower(" + night + ")", x.rower(night), rower);
        Check.due("sits(" + night + ")", x.sits(night), sits);
        Check.due("overBy(" + night + ")", x.overBy(night), overBy);
    }

    private static void shade(RowBack x, int s, int over, int waits) {
        Check.due("over(" + s + ")", x.over(s), over);
        Check.due("waits(" + s + ")", x.waits(s), waits);
    }

    private static void nights0To59() {
        Check.says("NIGHTS 0 .. 59");
        RowBack x = Check.of("r1011;s1900");
        night(x, -1, UNKNOWN, UNKNOWN, UNKNOWN);
        night(x, 0, FERRYMAN, 0, 0);
        night(x, 59, FERRYMAN, 0, 0);
        night(x, 60, UNKNOWN, UNKNOWN, UNKNOWN);
    }

    private static void comeByThen() {
        Check.says("On a NIGHT those who have come by then wait on the near bank, or are OVER");
        RowBack x = Check.of("r1991;s1100;s1129;s0115");
        night(x, 0, FERRYMAN, 0b001, 0b001);
        night(x, 14, NONE, 0, 0b001);
        night(x, 15, 2, 0, 0b101);
        night(x, 28, NONE, 0, 0b101);
        night(x, 29, FERRYMAN, 0b010, 0b111);
        night(x, 30, NONE, 0, 0b111);
        night(x, 59, NONE, 0, 0b111);
    }

    private static void lawsAndTheirTies() {
        Check.says("LAW 0: by the NIGHT on which they came; 1: the least HEAVY first; 2: the most COINS first; always the least number");
        // the first one comes on night 1, and has the most coins then
        RowBack x = Check.of("r1991;s3301;s1200;s2100");
        int[][] sits = {{2, 4, 1}, {4, 2, 1}, {4, 1, 2}};
        for (int law = 0; law < 3; law++) {
            x.law(law);
            for (int night = 0; night < 3; night++) {
                Check.due("law " + law + " sits(" + night + ")", x.sits(night), sits[law][night]);
            }
        }
        for (int law = 0; law < 3; law++) {
            RowBack same = Check.of("r1991;s1500;s1500;s1500;s0500;s0500;s0500");
            same.law(law);
            for (int night = 0; night < 3; night++) {
                Check.due("all alike, law " + law, same.sits(night), 1 << night);
                Check.due("all alike, law " + law, same.rower(night), 3 + night);
            }
        }
        // a drowned one of WEIGHT 3 and a shade of WEIGHT 5 are alike in the boat; a living one of 1 is more
        RowBack heavy = Check.of("r1991;l0100;d0300;s0500;s0400");
        heavy.law(1);
        int[] rows = {3, 1, 2, 0};
        for (int night = 0; night < 4; night++) {
            Check.due("HEAVY, not WEIGHT: rower(" + night + ")", heavy.rower(night), rows[night]);
        }
        RowBack lent = Check.of("r1991;s2100;s3100;s3100");
        lent.law(2);
        Check.due("the most COINS, the least number", lent.sits(0), 2);
        lent.loan(1, 0, 1);
        Check.due("COINS now", lent.sits(0), 1);
    }

    private static void rowerHasLessThanOnePays() {
        Check.says("The ROWER: the first in the row who has less COINS than one PAYS");
        for (int kind = 0; kind < 3; kind++) {
            for (int coins = 0; coins <= 3; coins++) {
                RowBack x = Check.of("r1991;" + "sdl".charAt(kind) + coins + "100");
                night(x, 0, coins <= kind ? 0 : FERRYMAN, coins <= kind ? 0 : 1, 1);
            }
        }
        RowBack second = Check.of("r1991;s1100;d1100;l2100");
        night(second, 0, 1, 0b001, 0b011);
        night(second, 1, 2, 0, 0b111);
    }

    private static void ferrymanIfThereIsNone() {
        Check.says("if there is none, the ferryman");
        RowBack x = Check.of("r1991;s1100;s1100;s0101");
        night(x, 0, FERRYMAN, 0b001, 0b001);
        night(x, 1, 2, 0b010, 0b111);
        night(x, 2, NONE, 0, 0b111);
    }

    private static void seatLeft() {
        Check.says("who has what one PAYS, if there is a SEAT left");
        for (int seats = 1; seats <= 4; seats++) {
            RowBack x = Check.of("r" + seats + "991;s1100;s1100;s1100;s1100;s1100;s1100");
            int first = (1 << seats) - 1;
            int second = (1 << Math.min(6, 2 * seats)) - 1;
            night(x, 0, FERRYMAN, first, first);
            night(x, 1, FERRYMAN, second - first, second);
        }
    }

    private static void noMoreHeavy() {
        Check.says("all who sit by then with it are together no more HEAVY than the boat BEARS");
        night(Check.of("r2101;s1600;s1400"), 0, FERRYMAN, 0b11, 0b11);
        night(Check.of("r2101;s1600;s1500"), 0, FERRYMAN, 0b01, 0b01);
        night(Check.of("r1011;s1100"), 0, FERRYMAN, 1, 1);
        night(Check.of("r1011;s1200"), 0, FERRYMAN, 0, 0);
        night(Check.of("r1221;l3900"), 0, FERRYMAN, 1, 1);
        night(Check.of("r1211;l3900"), 0, FERRYMAN, 0, 0);
        night(Check.of("r1111;d2900"), 0, FERRYMAN, 1, 1);
        night(Check.of("r1101;d2900"), 0, FERRYMAN, 0, 0);
        night(Check.of("r4881;l3900;l3900;l3900;l3900"), 0, FERRYMAN, 15, 15);
        night(Check.of("r4871;l3900;l3900;l3900;l3900"), 0, FERRYMAN, 7, 7);
    }

    private static void leftOut() {
        Check.says("(who can not is left out, those behind are asked)");
        RowBack x = Check.of("r2101;s1600;s1500;s1500;s1400");
        night(x, 0, FERRYMAN, 0b1001, 0b1001);
        night(x, 1, FERRYMAN, 0b0110, 0b1111);
        RowBack first = Check.of("r1091;l3900;s1900");
        night(first, 0, FERRYMAN, 0b10, 0b10);
        // who has not what it pays takes no seat
        RowBack poor = Check.of("r1991;d1100;s0100;s1100");
        night(poor, 0, 0, 0b100, 0b101);
    }

    private static void rowerDoesNotCount() {
        Check.says("(the ROWER does not count)");
        RowBack x = Check.of("r1054;s0900;s1500;s1500");
        night(x, 0, 0, 0b010, 0b010);
        night(x, 1, 0, 0b100, 0b110);
        RowBack four = Check.of("r4041;s0900;s1100;s1100;s1100;s1100");
        night(four, 0, 0, 0b11110, 0b11111);
    }

    private static void rowsIfNobodySits() {
        Check.says("The ROWER comes back (he rows, too, if nobody sits)");
        RowBack x = Check.of("r1012;s0900;s1900");
        night(x, 0, 0, 0, 0);
        night(x, 1, 0, 0, 0b01);
        night(x, 2, FERRYMAN, 0, 0b01);
        RowBack alone = Check.of("r1011;l0900");
        night(alone, 0, 0, 0, 1);
    }

    private static void rowedRowsTimes() {
        Check.says("when he has rowed ROWS times, he is OVER on that NIGHT");
        for (int rows = 1; rows <= 4; rows++) {
            RowBack x = Check.of("r199" + rows + ";s0100;s0100");
            shade(x, 0, rows - 1, rows - 1);
            shade(x, 1, 2 * rows - 1, 2 * rows - 1);
            for (int night = 0; night < 2 * rows; night++) {
                int over = night < rows - 1 ? 0 : night < 2 * rows - 1 ? 1 : 3;
                night(x, night, night < rows ? 0 : 1, 0, over);
            }
            night(x, 2 * rows, NONE, 0, 3);
        }
    }

    private static void rowsCountOverNights() {
        Check.says("when he has rowed ROWS times");
        // by LAW 1 the heavy one rows on 0 and 1, the light ones on 2 .. 4 and on 5 .. 7, then it rows its last time
        RowBack x = Check.of("r1993;s0900;s0102;s0105");
        x.law(1);
        int[] rowers = {0, 0, 1, 1, 1, 2, 2, 2, 0, NONE};
        for (int night = 0; night < rowers.length; night++) {
            Check.due("rower(" + night + ")", x.rower(night), rowers[night]);
        }
        shade(x, 0, 8, 8);
        shade(x, 1, 4, 2);
        shade(x, 2, 7, 2);
        x.law(0);
        shade(x, 0, 2, 2);
        x.law(1);
        shade(x, 0, 8, 8);
    }

    private static void nobodyWaits() {
        Check.says("If nobody waits, nobody rows");
        RowBack x = Check.of("r1991;s1103;s0107");
        for (int night = 0; night < 60; night++) {
            int over = night < 3 ? 0 : night < 7 ? 1 : 3;
            night(x, night, night == 3 ? FERRYMAN : night == 7 ? 1 : NONE, night == 3 ? 1 : 0, over);
        }
        Check.bank(x, "r1991;s1129");
        for (int night = 0; night < 29; night++) {
            night(x, night, NONE, 0, 0);
        }
        // who waits by one LAW's nights may not wait by another's
        RowBack later = Check.of("r1051;s1500;s2100;s3100");
        later.loan(1, 0, 2);
        night(later, 0, 1, 0b001, 0b011);
        night(later, 1, FERRYMAN, 0b100, 0b111);
        night(later, 2, NONE, 0, 0b111);
        later.undo(1);
        night(later, 1, FERRYMAN, 0b010, 0b011);
        night(later, 2, FERRYMAN, 0b100, 0b111);
        later.loan(1, 0, 2);
        night(later, 2, NONE, 0, 0b111);
    }

    private static void nobodySits() {
        Check.says("Who sits in the boat on a NIGHT, as a set");
        RowBack x = Check.of("r4054;s0100;s1900;d1100");
        for (int night = 0; night < 8; night++) {
            night(x, night, night < 4 ? 0 : 2, 0, night < 3 ? 0 : night < 7 ? 1 : 5);
        }
        night(x, 8, FERRYMAN, 0, 5);
        night(x, 59, FERRYMAN, 0, 5);
    }

    private static void neverOver() {
        Check.says("if it never is, to NIGHT 59 and 1 more; NONE: never");
        for (int comes = 0; comes <= 29; comes++) {
            String two = "" + comes / 10 + comes % 10;
            RowBack x = Check.of("r1011;s12" + two);
            shade(x, 0, NONE, 60 - comes);
            Check.due("allWait", x.allWait(), 60 - comes);
            Check.due("overBy(59)", x.overBy(59), 0);
        }
        RowBack six = Check.of("r4011;s1200;s1200;s1200;s1200;s1200;s1200");
        Check.due("all of six", six.allWait(), 360);
    }

    private static void waits() {
        Check.says("WAITS: from the NIGHT on which it came to the one on which it is OVER");
        RowBack x = Check.of("r1992;s1105;s1105;s0105;s1129");
        shade(x, 0, 5, 0);
        shade(x, 1, 6, 1);
        shade(x, 2, 6, 1);
        shade(x, 3, 29, 0);
        Check.due("allWait", x.allWait(), 2);
        Check.due("one who is OVER at once", Check.of("r1991;s1100").allWait(), 0);
    }

    private static void latestOfAll() {
        Check.says("when he has rowed ROWS times, he is OVER on that NIGHT");
        RowBack x = Check.of("r1014;s0129;s0129;s0129;s0129;s0129;s0129");
        for (int s = 0; s < 6; s++) {
            shade(x, s, 32 + 4 * s, 3 + 4 * s);
        }
        night(x, 51, 5, 0, 31);
        night(x, 52, 5, 0, 63);
        night(x, 53, NONE, 0, 63);
        Check.due("allWait", x.allWait(), 3 + 7 + 11 + 15 + 19 + 23);
    }

    private static void withoutABank() {
        Check.says("UNKNOWN; STATE: there is no BANK");
        RowBack x = new RowBack();
        night(x, 0, STATE, STATE, STATE);
        night(x, 59, STATE, STATE, STATE);
        night(x, 60, UNKNOWN, UNKNOWN, UNKNOWN);
        night(x, -1, UNKNOWN, UNKNOWN, UNKNOWN);
        shade(x, 0, UNKNOWN, UNKNOWN);
        Check.due("allWait", x.allWait(), STATE);
    }

    private static void byLoans() {
        Check.says("a SHADE lends COINS to another one, ahead of all NIGHTS");
        RowBack x = Check.of("r1992;s3100;d0129");
        night(x, 0, FERRYMAN, 0b01, 0b01);
        night(x, 29, 1, 0, 0b01);
        shade(x, 1, 30, 1);
        x.loan(0, 1, 2);
        night(x, 0, FERRYMAN, 0b01, 0b01);
        night(x, 29, FERRYMAN, 0b10, 0b11);
        shade(x, 1, 29, 0);
        x.loan(0, 1, 1);
        night(x, 0, 0, 0, 0);
        shade(x, 0, 1, 1);
        x.undo(2);
        shade(x, 0, 0, 0);
        shade(x, 1, 30, 1);
    }
}
