/** Part 4, loans and who paid: promises 16 to 21. */
public final class LoansTest {
    private static final int NONE = -9;

    public static void main(String[] args) {
        gain();
        gainByTheLeastNumbers();
        gainRefuses();
        favours();
        favoursInPlaceOfLoans();
        readings();
        payers();
        rules();
        Check.end();
    }

    private static void gain() {
        // 1 rows 4 times; with a coin it sits on night 1, and who lends it still pays
        RowBack x = Check.of("r1994;s2100;s0100");
        Check.due("all wait", x.allWait(), 3);
        Check.due("gain(0)", x.gain(0), 1);
        Check.due("gain(1)", x.gain(1), 1);
        Check.due("nothing is lent", x.many(4), 0);
        Check.due("all wait as ahead", x.allWait(), 3);
        x.loan(0, 1, 1);
        Check.due("no gain more", x.gain(0), NONE);
        Check.due("as now", x.gain(1), 1);
        // nobody can lend
        RowBack none = Check.of("r1994;s0100;s0100");
        Check.due("none has a coin", none.gain(0), NONE);
        Check.due("none has a coin", none.gain(1), none.allWait());
        Check.due("alone", Check.of("r1051;s3900").gain(0), NONE);
        Check.due("alone", Check.of("r1051;s3900").gain(1), 60);
        // who is too heavy gains by lending its last coin: it rows and is over
        RowBack heavy = Check.of("r1051;s1900;s1100");
        Check.due("it rows", heavy.gain(0), 1);
        Check.due("both are over at once", heavy.gain(1), 0);
    }

    private static void gainByTheLeastNumbers() {
        RowBack from = Check.of("r4994;s2100;s0100;s2100");
        Check.due("least from", from.gain(0), 1);
        RowBack to = Check.of("r4994;s0100;s0100;s2100");
        Check.due("least to", to.gain(0), 20);
        Check.due("one of two rows", to.gain(1), 3);
        RowBack second = Check.of("r4994;l0100;s0100;s2100");
        Check.due("a coin is no help to a living one", second.gain(0), 21);
        Check.due("it rows alone", second.gain(1), 3);
        // 1, too heavy, is over by rowing when it has lent its coin: to 0, all wait 4; to 2, that pays then, 2
        RowBack best = Check.of("r1052;s2100;s1900;d1100");
        Check.due("all wait", best.allWait(), 61);
        Check.due("not the first gain, the best one", best.gain(0), 12);
        Check.due("what all wait then", best.gain(1), 2);
        RowBack six = Check.of("r4994;s0100;s2100;s0100");
        for (int k = 0; k < 3; k++) {
            six.loan(1, 2, 1);
            six.loan(2, 1, 1);
        }
        Check.due("there are six", six.loan(1, 0, 1), -4);
        Check.due("gain of a seventh", six.gain(0), 10);
        Check.due("what all wait then", six.gain(1), 3);
        // by weight the light one rows first and is over on night 3, the other one on night 7
        RowBack law = Check.of("r4994;s0900;s0100;s1100");
        law.law(1);
        Check.due("who lends its one coin rows in its place", law.gain(0), NONE);
        Check.due("as now", law.gain(1), 10);
    }

    private static void gainRefuses() {
        RowBack none = new RowBack();
        Check.due("gain(2) without a bank", none.gain(2), -2);
        Check.due("gain(-1) without a bank", none.gain(-1), -2);
        Check.due("gain(0) without a bank", none.gain(0), -3);
        Check.due("gain(1) without a bank", none.gain(1), -3);
        RowBack x = Check.of("r1991;s1100");
        Check.due("gain(2)", x.gain(2), -2);
        Check.due("gain(-1)", x.gain(-1), -2);
    }

    private static void favours() {
        Check.due("it is over by its own coins", Check.of("r1991;l3100").favours(0), 0);
        Check.due("it is over by rowing", Check.of("r1991;l0100").favours(0), 0);
        Check.due("too heavy, and it pays", Check.of("r1051;l3100").favours(0), NONE);
        Check.due("too heavy, and it rows", Check.of("r1051;l2100").favours(0), 0);
        // the one ahead rows once a night: it is over, and then the living one rows
        Check.due("behind another one", Check.of("r1994;s0100;l2100").favours(1), 0);
        Check.due("no living one", Check.of("r1991;s1100;d1100").favours(0), -3);
        Check.due("no living one", Check.of("r1991;s1100;d1100").favours(1), -3);
        RowBack x = Check.of("r1991;l1100");
        Check.due("no shade", x.favours(1), -1);
        Check.due("no shade", x.favours(-1), -1);
        Check.due("no shade without a bank", new RowBack().favours(0), -1);
    }

    // Too heavy to sit: with 3 coins it is never over, with less it rows.
    private static void favoursInPlaceOfLoans() {
        RowBack x = Check.of("r1051;l2100;s3100");
        x.loan(1, 0, 1);
        Check.due("never over now", x.over(0), NONE);
        Check.due("borrowed in place of what was lent to it", x.favours(0), 0);
        Check.due("the loan stays", x.ofShade(0, 6), 3);
        RowBack both = Check.of("r1051;l3100;s3100");
        both.loan(0, 1, 1);
        both.loan(1, 0, 1);
        Check.due("never over now", both.over(0), NONE);
        Check.due("what it lends stays lent", both.favours(0), 0);
        both.undo(2);
        both.loan(1, 0, 3);
        Check.due("its own are enough to sit", both.favours(0), NONE);
        both.loan(0, 1, 3);
        both.loan(0, 1, 3);
        Check.due("it has lent 6 of 3", both.favours(0), 0);
        Check.due("nights stay", both.over(0), 0);
    }

    private static void readings() {
        RowBack none = new RowBack();
        Check.due("no shade without a bank", none.reading(0, 0, true), -1);
        Check.due("back(0) of none", none.back(0), 0);
        Check.due("back(1) of none", none.back(1), -2);
        RowBack x = Check.of("r1991;s1100;s1100");
        Check.due("no shade", x.reading(2, 0, true), -1);
        Check.due("no shade", x.reading(-1, 0, true), -1);
        Check.due("no night", x.reading(0, 60, true), -1);
        Check.due("no night", x.reading(0, -1, false), -1);
        Check.due("none is kept", x.many(5), 0);
        for (int k = 0; k < 6; k++) {
            Check.due("its number", x.reading(k & 1, k == 0 ? 0 : 59, true), k);
        }
        Check.due("full", x.reading(0, 0, true), -4);
        Check.due("no shade ahead of full", x.reading(2, 0, true), -1);
        Check.due("no night ahead of full", x.reading(0, 60, true), -1);
        Check.due("how many", x.many(5), 6);
        Check.due("back(7)", x.back(7), -2);
        Check.due("back(-1)", x.back(-1), -2);
        Check.due("back(0)", x.back(0), 6);
        Check.due("back(2)", x.back(2), 4);
        Check.due("the next one's number", x.reading(0, 0, false), 4);
        Check.due("it is not so", x.rules(), 0);
        Check.due("back(1)", x.back(1), 4);
        Check.due("the last one is taken back", x.rules(), 7);
        Check.due("back(4)", x.back(4), 0);
        Check.due("how many", x.many(5), 0);
        Check.due("readings outlive the law", x.reading(1, 0, false), 0);
        x.law(2);
        Check.due("how many", x.many(5), 1);
    }

    // Law 0, one seat, 2 rows. Over on nights: by a coin of 0: 0, 1, 2, 3; of 1: 0, 1, 1, 2; of 3: 0, 1, 2, 1.
    private static void payers() {
        RowBack x = Check.of("r1992;s2100;s1100;s0100;s1100");
        Check.due("all others who have a coin", x.payers(2), 0b1011);
        Check.due("all others who have a coin", x.payers(0), 0b1010);
        Check.due("all others who have a coin", x.payers(1), 0b1001);
        Check.due("over on night 1", payersBy(x, 2, 1, true), 0b0010);
        Check.due("not over on night 1", payersBy(x, 2, 1, false), 0b1001);
        Check.due("3 over on night 2", payersBy(x, 3, 2, true), 0b1010);
        Check.due("3 over on night 1", payersBy(x, 3, 1, true), 0b1000);
        Check.due("3 not over on night 2", payersBy(x, 3, 2, false), 0b0001);
        Check.due("0 over at the end of night 0", payersBy(x, 0, 0, true), 0b1011);
        Check.due("0 not over at the end of night 0", payersBy(x, 0, 0, false), 0);
        Check.due("no reading is left", x.many(5), 0);
        x.reading(2, 1, false);
        x.reading(3, 2, true);
        Check.due("two readings", x.payers(2), 0b1000);
        x.reading(2, 1, true);
        Check.due("readings that can't be so", x.payers(2), 0);
        Check.due("nothing is lent", x.many(4), 0);
        Check.due("coins as ahead", x.ofShade(2, 6), 0);
        Check.due("nights as ahead", x.over(2), 1);
        Check.due("no shade", x.payers(4), -1);
        Check.due("no shade", x.payers(-1), -1);
        Check.due("no shade without a bank", new RowBack().payers(0), -1);
        RowBack lent = Check.of("r1991;s1100;s1100;s0100");
        lent.loan(0, 1, 1);
        Check.due("who has a coin now", lent.payers(2), 0b010);
        Check.due("not the shade itself", lent.payers(1), 0);
        Check.due("who has a coin now", lent.payers(0), 0b010);
        // by coins the one that borrows is the first to sit
        RowBack law = Check.of("r1991;s1100;s1100;s2100");
        law.reading(1, 0, true);
        Check.due("by night and number", law.payers(1), 0b001);
        law.law(2);
        Check.due("by coins", law.payers(1), 0b101);
    }

    private static int payersBy(RowBack x, int s, int night, boolean was) {
        x.reading(s, night, was);
        int payers = x.payers(2);
        x.back(1);
        return payers;
    }

    private static void rules() {
        Check.due("rules without a bank", new RowBack().rules(), -3);
        RowBack x = Check.of("r1991;s1200;s2300;s1100");
        Check.due("no readings", x.rules(), 7);
        x.reading(0, 0, true);
        Check.due("by night and number", x.rules(), 0b001);
        x.back(1);
        x.reading(0, 0, false);
        Check.due("not by night and number", x.rules(), 0b110);
        x.reading(1, 0, true);
        Check.due("by coins", x.rules(), 0b100);
        x.back(2);
        x.reading(2, 0, true);
        Check.due("by weight", x.rules(), 0b010);
        x.law(2);
        Check.due("whatever the law", x.rules(), 0b010);
        Check.due("the law stays", x.many(6), 2);
        x.back(1);
        x.reading(0, 2, true);
        x.reading(1, 2, true);
        x.reading(2, 2, true);
        Check.due("all are over by then", x.rules(), 7);
        x.reading(2, 1, true);
        Check.due("the last by number is the last by coins", x.rules(), 0b010);
        x.back(1);
        x.reading(1, 1, false);
        Check.due("the heaviest is the last", x.rules(), 0b010);
        x.back(4);
        // with a coin lent, 2 has most: by coins it is the first
        x.reading(2, 0, true);
        x.loan(1, 2, 1);
        Check.due("by loans", x.rules(), 0b110);
        x.undo(1);
        Check.due("without them", x.rules(), 0b010);
        // who rows to the end is over, too
        RowBack rows = Check.of("r1992;s0100");
        rows.reading(0, 0, false);
        rows.reading(0, 1, true);
        Check.due("over by rowing", rows.rules(), 7);
    }
}
