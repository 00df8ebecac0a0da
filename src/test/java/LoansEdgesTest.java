/** Part 4, sentence by sentence: a GAIN, FAVOURS, READINGS, PAYERS, RULES. */
public final class LoansEdgesTest {
    private static final int UNKNOWN = -1, OUTSIDE = -2, STATE = -3, FULL = -4, NONE = -9;

    public static void main(String[] args) {
        gainLessThanNow();
        gainOfSeveral();
        gainWhereThereAreSix();
        gainOfOneCoin();
        gainByTheLawNow();
        gainRefuses();
        favoursFewest();
        favoursInPlaceOfAllThatAreLent();
        favoursByTheLaw();
        favoursOfWhom();
        readingsSixAtMost();
        readingsAtTheirEdges();
        readingsOutliveLawsAndLoans();
        backAtItsEdges();
        payersWhoHasACoin();
        payersEachAlone();
        payersByTheLawNow();
        payersWhereThereAreSix();
        rulesBySets();
        rulesLeaveTheLaw();
        Check.end();
    }

    private static void gain(RowBack x, int pair, int wait) {
        int now = x.allWait();
        int loans = x.many(4);
        Check.due("gain(0)", x.gain(0), pair);
        Check.due("gain(1)", x.gain(1), wait);
        Check.due("all wait as ahead", x.allWait(), now);
        Check.due("so many LOANS as ahead", x.many(4), loans);
    }

    private static void gainLessThanNow() {
        Check.says("by which all together WAIT the least, less than now; NONE: there is none; as now");
        gain(Check.of("r1991;s3100"), NONE, 0);
        gain(Check.of("r1011;s3900"), NONE, 60);
        gain(Check.of("r1991;s0100;s0100"), NONE, 1);
        gain(Check.of("r2991;s3100;s3100"), NONE, 0);
        // who gets the coin sits where the one who gave it rows: no less than now
        gain(Check.of("r1991;s1100;s0100"), NONE, 0);
        gain(Check.of("r2992;s1100;s0100"), NONE, 1);
        // 1 less than now is enough
        RowBack one = Check.of("r2992;s2100;s0100");
        Check.due("all wait now", one.allWait(), 1);
        gain(one, 1, 0);
    }

    private static void gainOfSeveral() {
        Check.says("of several the least from, then to");
        gain(Check.of("r4994;s2100;s2100;s0100"), 2, 0);
        gain(Check.of("r4994;s0100;s2100;s2100"), 10, 0);
        gain(Check.of("r4994;s0100;s0100;s2100"), 20, 3);
        gain(Check.of("r4994;s2100;s0100;s0100"), 1, 3);
        gain(Check.of("r4994;s0100;s2100;s0100"), 10, 3);
        gain(Check.of("r4994;s0100;s0100;s0100;s0100;s0100;s2100"), 50, 3 + 7 + 11 + 15);
        // the least of all, though a lesser pair is less than now, too: 1 is too heavy and has one coin
        RowBack x = Check.of("r2052;s2100;s1900;s0100;s2100");
        Check.due("all wait now", x.allWait(), 0 + 60 + 1 + 0);
        gain(x, 12, 0 + 1 + 0 + 1);
    }

    private static void gainWhereThereAreSix() {
        Check.says("(also where there are 6; from, to)");
        RowBack x = Check.of("r4994;s2100;s0100;s1100");
        for (int k = 0; k < 6; k++) {
            x.loan(k % 2 == 0 ? 0 : 2, k % 2 == 0 ? 2 : 0, 1);
        }
        Check.due("no seventh LOAN", x.loan(0, 1, 1), FULL);
        gain(x, 1, 0);
        Check.due("COINS stay", x.ofShade(0, 6) * 100 + x.ofShade(1, 6) * 10 + x.ofShade(2, 6), 201);
        x.undo(1);
        Check.due("COINS by 5", x.ofShade(0, 6) * 100 + x.ofShade(1, 6) * 10 + x.ofShade(2, 6), 102);
        gain(x, 21, 0);
    }

    private static void gainOfOneCoin() {
        Check.says("the one LOAN more of one COIN");
        // a drowned one with none is not helped by one coin, a living one with 2 is
        gain(Check.of("r4994;s3100;d0100"), NONE, 3);
        gain(Check.of("r4994;s3100;d1100"), 1, 0);
        gain(Check.of("r4994;s3100;l1100"), NONE, 3);
        gain(Check.of("r4994;s3100;l2100"), 1, 0);
        // who has one coin can lend it, who has none can not
        gain(Check.of("r1051;s1900;s1100"), 1, 0);
        RowBack none = Check.of("r1051;s1900;s1100");
        none.loan(1, 0, 1);
        Check.due("COINS now", none.ofShade(0, 6) * 10 + none.ofShade(1, 6), 20);
        gain(none, NONE, 60);
        // who has borrowed coins alone can lend one of them
        RowBack borrowed = Check.of("r4994;s2100;s0100;s0100");
        borrowed.loan(0, 1, 2);
        gain(borrowed, 10, 3);
    }

    private static void gainByTheLawNow() {
        Check.says("A GAIN by LOANS: all together WAIT the least");
        // by LAW 2 a coin more puts 5 beside 5 and leaves 1 to go with 9; by the others no coin changes the row
        RowBack x = Check.of("r2104;s3500;s2100;s2500;s1900");
        gain(x, NONE, 3);
        x.law(1);
        gain(x, NONE, 3);
        x.law(2);
        gain(x, 2, 2);
        x.loan(0, 2, 1);
        gain(x, NONE, 2);
    }

    private static void gainRefuses() {
        Check.says("OUTSIDE; STATE: there is no BANK");
        RowBack none = new RowBack();
        Check.due("gain(2)", none.gain(2), OUTSIDE);
        Check.due("gain(-1)", none.gain(-1), OUTSIDE);
        Check.due("gain(0)", none.gain(0), STATE);
        Check.due("gain(1)", none.gain(1), STATE);
        Check.due("gain(2) of a BANK", Check.of("r1011;s0100").gain(2), OUTSIDE);
    }

    private static void favoursFewest() {
        Check.says("FAVOURS of a LIVING one: the fewest COINS (0 .. 9) by which it is OVER at all; NONE");
        for (int coins = 0; coins <= 3; coins++) {
            String fits = "r1061;l" + coins + "100";
            String heavy = "r1051;l" + coins + "100";
            Check.due("it fits with " + coins, Check.of(fits).favours(0), 0);
            Check.due("too heavy with " + coins, Check.of(heavy).favours(0), coins == 3 ? NONE : 0);
        }
        Check.due("it comes last and rows", Check.of("r1014;s0129;s0129;s0129;s0129;s0129;l2929").favours(5), 0);
    }

    private static void favoursInPlaceOfAllThatAreLent() {
        Check.says("borrowed in place of all that are lent to it (those who lent to it have theirs as now)");
        // with what is lent to it, it pays and is too heavy; without, it rows
        RowBack x = Check.of("r1051;l1100;s3100;s3100");
        x.loan(1, 0, 1);
        Check.due("it rows now", x.over(0), 0);
        x.loan(2, 0, 1);
        Check.due("it pays now", x.over(0), NONE);
        Check.due("in place of both", x.favours(0), 0);
        Check.due("LOANS stay", x.many(4), 2);
        Check.due("COINS stay", x.ofShade(0, 6) * 100 + x.ofShade(1, 6) * 10 + x.ofShade(2, 6), 322);
        Check.due("nights stay", x.over(0), NONE);
        // what it has lent stays lent, also what it had borrowed ahead
        RowBack lends = Check.of("r1051;l3100;s3100");
        Check.due("3 of its own", lends.favours(0), NONE);
        lends.loan(0, 1, 1);
        Check.due("2 of its own", lends.favours(0), 0);
        lends.loan(1, 0, 3);
        Check.due("2 of its own, and 3 lent to it", lends.over(0), NONE);
        Check.due("2 of its own, in place of 3", lends.favours(0), 0);
        lends.undo(2);
        lends.loan(1, 0, 3);
        Check.due("3 of its own, in place of 3", lends.favours(0), NONE);
    }

    private static void favoursByTheLaw() {
        Check.says("it is OVER at all by the LAW");
        RowBack x = Check.of("r1081;l3300;l2200;s3500");
        for (int law = 0; law < 3; law++) {
            x.law(law);
            Check.due("too heavy by LAW " + law, x.favours(0), NONE);
            Check.due("it rows by LAW " + law, x.favours(1), 0);
            Check.due("the LAW stays", x.many(6), law);
        }
    }

    private static void favoursOfWhom() {
        Check.says("UNKNOWN; STATE: it is no LIVING one");
        RowBack x = Check.of("r1991;s1100;d1100;l1100");
        Check.due("a shade", x.favours(0), STATE);
        Check.due("a drowned one", x.favours(1), STATE);
        Check.due("a living one", x.favours(2), 0);
        Check.due("no shade", x.favours(3), UNKNOWN);
        Check.due("no shade", x.favours(-1), UNKNOWN);
        Check.due("no BANK", new RowBack().favours(0), UNKNOWN);
    }

    private static void readingsSixAtMost() {
        Check.says("READINGS, 6 at most, each numbered by how many there are ahead of it (the first one 0)");
        RowBack x = Check.of("r1991;s1100;s1100");
        for (int k = 0; k < 6; k++) {
            Check.due("READINGS ahead of it", x.many(5), k);
            Check.due("its number", x.reading(1, 1, true), k);
        }
        Check.due("a seventh one", x.reading(0, 0, false), FULL);
        Check.due("it is not kept", x.rules(), 7);
        Check.due("one is taken back", x.back(1), 5);
        Check.due("there is room for one", x.reading(0, 0, false), 5);
        Check.due("it is kept", x.rules(), 0);
        Check.due("and not for more", x.reading(1, 1, true), FULL);
    }

    private static void readingsAtTheirEdges() {
        Check.says("UNKNOWN: SHADE, NIGHT; at the end of a NIGHT a SHADE was OVER, or not");
        RowBack x = Check.of("r1991;s1100;s0100;s1128;s3129");
        int[] over = {0, 0, 28, 29};
        for (int s = 0; s < 4; s++) {
            for (int night : new int[] {0, 27, 28, 29, 59}) {
                for (int was = 0; was < 2; was++) {
                    boolean so = night >= over[s] == (was == 1);
                    Check.due("a READING's number", x.reading(s, night, was == 1), 0);
                    Check.due(s + " at the end of " + night + ", " + was, x.rules(), so ? 7 : 0);
                    Check.due("taken back", x.back(1), 0);
                }
            }
            Check.due("NIGHT 60", x.reading(s, 60, true), UNKNOWN);
            Check.due("NIGHT -1", x.reading(s, -1, true), UNKNOWN);
        }
        Check.due("SHADE 4", x.reading(4, 0, true), UNKNOWN);
        Check.due("SHADE -1", x.reading(-1, 0, true), UNKNOWN);
        Check.due("none is kept", x.many(5), 0);
        RowBack heavy = Check.of("r1011;s1900");
        heavy.reading(0, 59, false);
        Check.due("never OVER, also at the end of NIGHT 59", heavy.rules(), 7);
        Check.due("without a BANK", new RowBack().reading(0, 0, true), UNKNOWN);
    }

    private static void readingsOutliveLawsAndLoans() {
        Check.says("at the end of a NIGHT a SHADE was OVER, or not");
        RowBack x = Check.of("r1991;s1200;s2100");
        x.reading(0, 0, true);
        Check.due("by LAW 0", x.rules(), 0b001);
        x.law(1);
        Check.due("by any LAW now", x.rules(), 0b001);
        x.loan(1, 0, 1);
        Check.due("by LOANS now", x.rules(), 0b101);
        Check.due("the READING stays", x.many(5), 1);
        x.undo(1);
        Check.due("without them", x.rules(), 0b001);
        Check.due("the READING stays", x.many(5), 1);
    }

    private static void backAtItsEdges() {
        Check.says("The last k READINGS (0 .. as many as there are) are taken back: how many are left");
        RowBack x = Check.of("r1991;s1100");
        Check.due("0 of none", x.back(0), 0);
        Check.due("1 of none", x.back(1), OUTSIDE);
        x.reading(0, 0, true);
        x.reading(0, 0, false);
        x.reading(0, 59, true);
        Check.due("1 more than there are", x.back(4), OUTSIDE);
        Check.due("-1", x.back(-1), OUTSIDE);
        Check.due("none is taken back", x.back(0), 3);
        Check.due("they can't be so", x.rules(), 0);
        Check.due("the last one", x.back(1), 2);
        Check.due("they can't be so", x.rules(), 0);
        Check.due("the last one", x.back(1), 1);
        Check.due("the first is so", x.rules(), 7);
        Check.due("as many as there are", x.back(1), 0);
        Check.due("without a BANK there are none", new RowBack().back(0), 0);
    }

    private static void payersWhoHasACoin() {
        Check.says("PAYERS of a SHADE: others who have a COIN");
        RowBack x = Check.of("r4991;s0100;s1100;d0100;d1100;l0100;l3100");
        for (int s = 0; s < 6; s++) {
            Check.due("payers(" + s + ")", x.payers(s), 0b101010 & ~(1 << s));
        }
        x.loan(5, 0, 3);
        Check.due("who has a COIN now", x.payers(5), 0b001011);
        x.loan(1, 5, 1);
        Check.due("who has a COIN now", x.payers(0), 0b101000);
        Check.due("no shade", x.payers(6), UNKNOWN);
        Check.due("no shade", x.payers(-1), UNKNOWN);
        Check.due("without a BANK", new RowBack().payers(0), UNKNOWN);
        Check.due("there is no other", Check.of("r4991;s3100").payers(0), 0);
    }

    private static void payersEachAlone() {
        Check.says("by whom, had each alone lent it one more, all READINGS were so, as a set");
        // the third one needs 2: one has lent it one, each of the two can lend it the other one
        RowBack x = Check.of("r4991;s3101;s3101;d0100");
        Check.due("nobody told anything", x.payers(2), 0b011);
        x.loan(0, 2, 1);
        x.reading(2, 0, true);
        Check.due("OVER on NIGHT 0 in any case: it rows or it sits", x.payers(2), 0b011);
        x.back(1);
        RowBack rows = Check.of("r4992;s3101;s3101;d0100");
        rows.reading(2, 0, true);
        Check.due("one coin alone is not enough", rows.payers(2), 0);
        rows.loan(0, 2, 1);
        Check.due("one more is", rows.payers(2), 0b011);
        rows.loan(0, 2, 2);
        Check.due("who has none left", rows.payers(2), 0b010);
        rows.reading(2, 0, false);
        Check.due("not both", rows.payers(2), 0);
        Check.due("COINS stay", rows.ofShade(1, 6) * 10 + rows.ofShade(2, 6), 33);
        Check.due("nights stay", rows.over(2), 0);
        // who lends its one coin rows then
        RowBack last = Check.of("r4992;s1100;s2100;s0100");
        last.reading(0, 0, false);
        Check.due("who lent its last coin", last.payers(2), 0b001);
        last.reading(2, 0, true);
        Check.due("two READINGS", last.payers(2), 0b001);
        last.reading(1, 0, false);
        Check.due("three READINGS", last.payers(2), 0);
    }

    private static void payersByTheLawNow() {
        Check.says("all READINGS were so");
        RowBack x = Check.of("r1991;s1300;s2200;s1100");
        x.reading(2, 0, true);
        int[] due = {0, 0b011, 0b010};
        for (int law = 0; law < 3; law++) {
            x.law(law);
            Check.due("payers(2) by LAW " + law, x.payers(2), due[law]);
            Check.due("the LAW stays", x.many(6), law);
        }
    }

    private static void payersWhereThereAreSix() {
        Check.says("had each alone lent it one more");
        RowBack x = Check.of("r4992;s2100;s0100;s1100");
        for (int k = 0; k < 6; k++) {
            x.loan(k % 2 == 0 ? 0 : 2, k % 2 == 0 ? 2 : 0, 1);
        }
        x.reading(1, 0, true);
        Check.due("also where there are 6", x.payers(1), 0b101);
        Check.due("there are 6", x.many(4), 6);
    }

    private static void rulesBySets() {
        Check.says("RULES: LAWS by which all READINGS are so, as a set");
        Check.due("without a BANK", new RowBack().rules(), STATE);
        RowBack x = Check.of("r1991;s1200;s2300;s1100");
        int[] first = {0b001, 0b100, 0b010};
        for (int s = 0; s < 3; s++) {
            Check.due("no READINGS", x.rules(), 0b111);
            x.reading(s, 0, true);
            Check.due(s + " was OVER on NIGHT 0", x.rules(), first[s]);
            x.reading(s, 0, false);
            Check.due("and was not", x.rules(), 0);
            x.back(2);
            x.reading(s, 0, false);
            Check.due(s + " was not OVER on NIGHT 0", x.rules(), 0b111 & ~first[s]);
            x.back(1);
        }
    }

    private static void rulesLeaveTheLaw() {
        Check.says("RULES: LAWS by which all READINGS are so");
        RowBack x = Check.of("r1991;s1200;s2300;s1100");
        x.reading(0, 0, true);
        for (int law = 0; law < 3; law++) {
            x.law(law);
            int sits = x.sits(0);
            Check.due("whatever the LAW", x.rules(), 0b001);
            Check.due("the LAW stays", x.many(6), law);
            Check.due("nights stay", x.sits(0), sits);
        }
    }
}
