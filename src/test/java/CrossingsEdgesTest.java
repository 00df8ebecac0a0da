/** Part 3, sentence by sentence: CROSSINGS, the FIRST WRONG, LEAST WAITING, LAWS by which nobody waits too long. */
public final class CrossingsEdgesTest {
    private static final int OUTSIDE = -2, STATE = -3, INDEX = -13, NONE = -9;

    public static void main(String[] args) {
        none();
        oneANight();
        hasCome();
        isNotOver();
        hasWhatItPays();
        soManySeats();
        noMoreHeavy();
        eachSetJustHeavyEnough();
        inPlaceOfTheLaw();
        firstWrong();
        bitsOfNoShade();
        above20();
        fromIOn();
        keepsNothing();
        leastWaiting();
        leastOfWhoIsNeverOver();
        leastByLoansAndOfASecondBank();
        laws0To60();
        lawsByThree();
        Check.end();
    }

    private static void none() {
        Check.says("NONE: all may be");
        RowBack x = Check.of("r1011;s0100");
        Check.due("no sets", Check.crossings(x), NONE);
        Check.due("an empty set", Check.crossings(x, 0), NONE);
        Check.due("20 empty sets", Check.crossings(x, new int[20]), NONE);
        Check.row(x, 1, 0);
        Check.due("none of a row of no cells", x.crossings(1, 0, 0, 0), NONE);
        Check.due("fault()", x.fault(), 0);
    }

    private static void oneANight() {
        Check.says("a row of sets of SHADES, one a NIGHT from NIGHT 0 on");
        RowBack x = Check.of("r1991;s1100;s1101;s1102");
        Check.due("each on the night on which it comes", Check.crossings(x, 1, 2, 4), NONE);
        Check.due("the second a night too soon", Check.crossings(x, 2), 0);
        Check.due("the third a night too soon", Check.crossings(x, 1, 4), 1);
        Check.due("the third a night later", Check.crossings(x, 0, 0, 0, 4, 2, 1), NONE);
    }

    private static void hasCome() {
        Check.says("they may sit, if each of them has come");
        RowBack x = Check.of("r2991;s1119;s1100;s1120");
        int[] sets = new int[20];
        sets[19] = 0b011;
        Check.due("on night 19", Check.crossings(x, sets), NONE);
        sets[19] = 0b100;
        Check.due("who comes on night 20, on 19", Check.crossings(x, sets), 19);
        sets[18] = 0b011;
        Check.due("who comes on night 19, on 18", Check.crossings(x, sets), 18);
        Check.due("one of two has not come", Check.crossings(x, 0b011), 0);
        Check.due("the other one has", Check.crossings(x, 0b010), NONE);
    }

    private static void isNotOver() {
        Check.says("is not OVER by one ahead");
        RowBack x = Check.of("r2991;s1100;s1100");
        Check.due("the same set once more", Check.crossings(x, 1, 1), 1);
        Check.due("one of two is over", Check.crossings(x, 1, 3), 1);
        Check.due("over long ago", Check.crossings(x, 1, 0, 0, 0, 2, 0, 0, 1), 7);
        Check.due("none of them is over", Check.crossings(x, 1, 2), NONE);
        Check.due("both at once", Check.crossings(x, 3, 0), NONE);
    }

    private static void hasWhatItPays() {
        Check.says("has what it PAYS");
        for (int kind = 0; kind < 3; kind++) {
            for (int coins = 0; coins <= 3; coins++) {
                RowBack x = Check.of("r1991;" + "sdl".charAt(kind) + coins + "100");
                Check.due("kind " + kind + " with " + coins, Check.crossings(x, 0, 1), coins > kind ? NONE : 1);
                Check.due("kind " + kind + " with " + coins + " does not row", x.least(), coins > kind ? 0 : 60);
            }
        }
        RowBack x = Check.of("r1991;s1100;d1100");
        x.loan(0, 1, 1);
        Check.due("with the coin that it borrowed", Check.crossings(x, 2), NONE);
        Check.due("without the coin that it lent", Check.crossings(x, 1), 0);
    }

    private static void soManySeats() {
        Check.says("and there are so many SEATS");
        for (int seats = 1; seats <= 4; seats++) {
            RowBack x = Check.of("r" + seats + "991;s1100;s1100;s1100;s1100;s1100;s1100");
            Check.due("as many", Check.crossings(x, 0, (1 << seats) - 1), NONE);
            Check.due("as many, of the last ones", Check.crossings(x, 63 & ~(63 >> seats)), NONE);
            Check.due("one more", Check.crossings(x, 0, (2 << seats) - 1), 1);
            Check.due("all", Check.crossings(x, 63), 0);
        }
    }

    private static void noMoreHeavy() {
        Check.says("and they are together no more HEAVY than the boat BEARS");
        RowBack x = Check.of("r4251;s3900;d3200;l3400;s3100;s3300");
        Check.due("12 and 9 and 4: 25", Check.crossings(x, 0b00111), NONE);
        Check.due("12 and 9 and 4 and 1: 26", Check.crossings(x, 0b01111), 0);
        Check.due("12 and 9 and 3 and 1: 25", Check.crossings(x, 0b11101), NONE);
        Check.due("12 and 4 and 3 and 1", Check.crossings(x, 0, 0b11110, 0b00001), NONE);
        Check.due("one of 9 in a boat for 9", Check.crossings(Check.of("r1091;s1900"), 1), NONE);
        Check.due("one of 9 in a boat for 8", Check.crossings(Check.of("r1081;s1900"), 1), 0);
        Check.due("the heaviest one", Check.crossings(Check.of("r1221;l3900"), 1), NONE);
        Check.due("the heaviest one", Check.crossings(Check.of("r1211;l3900"), 1), 0);
        Check.due("88 in a boat for 88", Check.crossings(Check.of("r4881;l3900;l3900;l3900;l3900"), 15), NONE);
        Check.due("88 in a boat for 87", Check.crossings(Check.of("r4871;l3900;l3900;l3900;l3900"), 15), 0);
    }

    private static void eachSetJustHeavyEnough() {
        Check.says("they are together no more HEAVY than the boat BEARS");
        int[] heavy = {2, 4, 6, 9, 8, 22};
        for (int set = 1; set < 64; set++) {
            int together = 0;
            for (int s = 0; s < 6; s++) {
                if ((set >> s & 1) == 1) together += heavy[s];
            }
            if (Integer.bitCount(set) > 4) continue;
            Check.due("set " + set + " in a boat for " + together, Check.crossings(sixIn(together), set), NONE);
            Check.due("set " + set + " in a boat for 1 less", Check.crossings(sixIn(together - 1), set), 0);
        }
    }

    private static RowBack sixIn(int bears) {
        return Check.of("r4" + bears / 10 + bears % 10 + "1;s3200;d3200;s3600;d3700;l3200;l3900");
    }

    private static void inPlaceOfTheLaw() {
        Check.says("(by the ferryman, in place of the LAW)");
        RowBack x = Check.of("r1991;s1900;s2500;s3100;s0100");
        for (int law = 0; law < 3; law++) {
            x.law(law);
            Check.due("another order than the law's", Check.crossings(x, 2, 1, 4), NONE);
            Check.due("who rows by the law is not over by crossings", Check.crossings(x, 8), 0);
            Check.due("least", x.least(), 0 + 1 + 2 + 60);
        }
    }

    private static void firstWrong() {
        Check.says("FIRST WRONG: the first set (told by its NIGHT) that may not");
        RowBack x = Check.of("r1991;s1100;s1100;s0100");
        Check.due("the first", Check.crossings(x, 4, 1, 2), 0);
        Check.due("the last", Check.crossings(x, 1, 2, 4), 2);
        Check.due("of two", Check.crossings(x, 1, 3, 4), 1);
        int[] sets = new int[20];
        sets[19] = 4;
        Check.due("the twentieth", Check.crossings(x, sets), 19);
    }

    private static void bitsOfNoShade() {
        Check.says("OUTSIDE: a cell has a bit of no SHADE");
        for (int shades = 1; shades <= 6; shades++) {
            RowBack x = Check.of("r1991;s1100;s1100;s1100;s1100;s1100;s1100".substring(0, 5 + 6 * shades));
            Check.due("the last shade", Check.crossings(x, 1 << (shades - 1)), NONE);
            Check.due("one beyond", Check.crossings(x, 1 << shades), OUTSIDE);
            Check.due("one beyond, and the first", Check.crossings(x, 1 << shades | 1), OUTSIDE);
            Check.due("behind a wrong set", Check.crossings(x, 1, 1, 1 << shades), OUTSIDE);
            Check.due("all bits", Check.crossings(x, -1), OUTSIDE);
            Check.due("the sign", Check.crossings(x, Integer.MIN_VALUE), OUTSIDE);
            Check.due("far away", Check.crossings(x, 1 << 30), OUTSIDE);
        }
        RowBack x = Check.of("r1991;s1100");
        Check.row(x, 1, 0, 257, 128, 255);
        Check.due("cut to a byte it is 1", x.crossings(1, 0, 0, 1), NONE);
        Check.due("a byte's sign", x.crossings(1, 0, 1, 1), OUTSIDE);
        Check.due("all bits of a byte", x.crossings(1, 0, 2, 1), OUTSIDE);
        Check.row(x, 1, 1, 65537, 32768, 257);
        Check.due("cut to a short it is 1", x.crossings(1, 1, 0, 1), NONE);
        Check.due("a short's sign", x.crossings(1, 1, 1, 1), OUTSIDE);
        Check.due("257 as a short", x.crossings(1, 1, 2, 1), OUTSIDE);
    }

    private static void above20() {
        Check.says("OUTSIDE: n above 20");
        RowBack x = Check.of("r1991;s1100");
        for (int length : new int[] {20, 21, 60}) {
            Check.row(x, 1, 1, new int[length]);
            Check.due("20 of " + length, x.crossings(1, 1, length - 20, 20), NONE);
            Check.due("21 of " + length, x.crossings(1, 1, 0, 21), length == 20 ? INDEX : OUTSIDE);
            Check.due("all of " + length, x.crossings(1, 1, 0, length), length == 20 ? NONE : OUTSIDE);
            Check.due("61 of " + length, x.crossings(1, 1, 0, 61), INDEX);
        }
        x.put(1, 0, 1);
        x.put(1, 1, 1);
        Check.due("n above 20, and a wrong set", x.crossings(1, 1, 0, 21), OUTSIDE);
        Check.due("fault()", x.fault(), 0);
    }

    private static void fromIOn() {
        Check.says("CROSSINGS by n such cells; INDEX (of cells from i on, also if none of them is taken)");
        RowBack x = Check.of("r1991;s1100;s1100");
        Check.row(x, 2, 2, 64, 1, 2, 2, 64);
        Check.due("ahead and behind stand others", x.crossings(2, 2, 1, 2), NONE);
        Check.due("told by its night, not by its cell", x.crossings(2, 2, 1, 3), 2);
        Check.due("from another one on", x.crossings(2, 2, 2, 2), 1);
        Check.due("none of those beside", x.crossings(2, 2, 4, 0), NONE);
        Check.due("none from the end on", x.crossings(2, 2, 5, 0), NONE);
        Check.due("none from beyond", x.crossings(2, 2, 6, 0), INDEX);
        Check.due("fault()", x.fault(), 3);
        Check.due("none from -1 on", x.crossings(2, 2, -1, 0), INDEX);
        Check.due("one from the end on", x.crossings(2, 2, 5, 1), INDEX);
    }

    private static void keepsNothing() {
        Check.says("CROSSINGS by n such cells");
        RowBack x = Check.of("r1991;s1100;s0100");
        for (int time = 0; time < 3; time++) {
            Check.due("the same each time", Check.crossings(x, 1), NONE);
            Check.due("a wrong one each time", Check.crossings(x, 1, 1), 1);
            Check.due("nights stay the law's", x.rower(0) * 10 + x.overBy(0), 13);
        }
    }

    private static void leastWaiting() {
        Check.says("LEAST WAITING: the least that all SHADES together WAIT by any CROSSINGS of NIGHTS 0 .. 59");
        for (int seats = 1; seats <= 4; seats++) {
            RowBack x = Check.of("r" + seats + "991;s1100;s1100;s1100;s1100;s1100;s1100");
            int[] due = {0, 0 + 1 + 2 + 3 + 4 + 5, 0 + 2 + 4, 3, 2};
            Check.due("six by " + seats, x.least(), due[seats]);
        }
        Check.due("one who comes on the last night", Check.of("r1011;s1129").least(), 0);
        Check.due("six who come on the last night", Check.of("r1991;s1129;s1129;s1129;s1129;s1129;s1129").least(), 15);
        // two of 5 first, then the one of 9; by the law it is the other way round
        RowBack x = Check.of("r2101;s1900;s1500;s1500");
        Check.due("by the law", x.allWait(), 2);
        Check.due("by the best crossings", x.least(), 1);
        // 7 and 3, 6 and 4, 5 and 5: three nights; 3 with 4, or 5 with 4, take one more
        Check.due("pairs that just fit", Check.of("r2101;s1300;s1400;s1500;s1500;s1600;s1700").least(), 0 + 2 + 4);
        // the law makes a poor one row, and is better for it than any crossings
        RowBack poor = Check.of("r1991;s1100;s0100");
        Check.due("by the law", poor.allWait(), 0);
        Check.due("by crossings", poor.least(), 60);
        poor.law(1);
        Check.due("whatever the law", poor.least(), 60);
    }

    private static void leastOfWhoIsNeverOver() {
        Check.says("if it never is, to NIGHT 59 and 1 more");
        Check.due("six who have none", Check.of("r4991;s0100;s0100;s0100;s0100;s0100;s0100").least(), 360);
        Check.due("one who has none", Check.of("r4991;s0129").least(), 31);
        Check.due("one less than one pays", Check.of("r4991;l2110").least(), 50);
        Check.due("too heavy by 1", Check.of("r4211;l3900").least(), 60);
        Check.due("just as heavy", Check.of("r4221;l3900").least(), 0);
        Check.due("others are over nevertheless", Check.of("r1091;s1900;l3900;s0100;s1100").least(), 0 + 1 + 60 + 60);
        Check.due("without a BANK", new RowBack().least(), STATE);
    }

    private static void leastByLoansAndOfASecondBank() {
        Check.says("COINS are those told, less what is lent, and more by what is borrowed");
        RowBack x = Check.of("r1991;s2100;s0100");
        Check.due("the second one has none", x.least(), 60);
        x.loan(0, 1, 1);
        Check.due("both pay", x.least(), 1);
        x.loan(0, 1, 1);
        Check.due("the first one has none", x.least(), 60);
        x.undo(1);
        Check.due("both pay once more", x.least(), 1);
        Check.bank(x, "r2991;s1100;s1100");
        Check.due("of another boat", x.least(), 0);
    }

    private static void laws0To60() {
        Check.says("LAWS by which nobody WAITS more than w (0 .. 60), as a set. OUTSIDE; STATE");
        RowBack x = Check.of("r1011;s1900");
        Check.due("laws(59) where one waits 60", x.laws(59), 0);
        Check.due("laws(60) where one waits 60", x.laws(60), 7);
        Check.due("laws(61)", x.laws(61), OUTSIDE);
        Check.due("laws(0) where one waits 60", x.laws(0), 0);
        Check.due("laws(-1)", x.laws(-1), OUTSIDE);
        RowBack nobody = Check.of("r1991;s1100");
        Check.due("laws(0) where nobody waits", nobody.laws(0), 7);
        Check.due("laws(60) where nobody waits", nobody.laws(60), 7);
        RowBack none = new RowBack();
        Check.due("laws(61) without a BANK", none.laws(61), OUTSIDE);
        Check.due("laws(0) without a BANK", none.laws(0), STATE);
    }

    private static void lawsByThree() {
        Check.says("LAWS by which nobody WAITS more than w: as a set");
        // two nights are enough by one LAW each: 9 with 1, then the two of 5; 3 and 3 and 4, then the two of 5
        RowBack zero = Check.of("r2101;s1900;s2100;s3500;s1500");
        RowBack one = Check.of("r3101;s1300;s1500;s1300;s1500;s1400");
        RowBack two = Check.of("r2101;s1500;s2100;s1500;s3900");
        Check.due("by LAW 0 alone", zero.laws(1), 0b001);
        Check.due("by LAW 1 alone", one.laws(1), 0b010);
        Check.due("by LAW 2 alone", two.laws(1), 0b100);
        Check.due("by all", zero.laws(2) & one.laws(2) & two.laws(2), 0b111);
        Check.due("by none", zero.laws(0) | one.laws(0) | two.laws(0), 0);
        RowBack rows = Check.of("r1993;s0900;s0102");
        Check.due("by LAW 0 the second waits 3", rows.laws(3), 0b101);
        Check.due("by LAW 1 the first waits 5", rows.laws(5), 0b111);
        Check.due("by LAW 1 the first waits 5", rows.laws(4), 0b101);
        rows.law(2);
        Check.due("whatever the LAW", rows.laws(4), 0b101);
        Check.due("the LAW stays", rows.many(6), 2);
    }
}
