/** Part 1, the bank: promises 2 to 6, and 32. */
public final class BankTest {
    private static final String TEXT = "r2153;s1400;d0502;l3129";

    public static void main(String[] args) {
        bankTakes();
        bankFindsFirstFault();
        bankRefuses();
        bankMakesAnew();
        ofShade();
        law();
        loan();
        undo();
        many();
        Check.end();
    }

    private static void bankTakes() {
        int[] codes = Check.codes(TEXT);
        for (int lane = 0; lane < 3; lane++) {
            for (int i = 0; i < 2; i++) {
                RowBack x = new RowBack();
                int[] cells = new int[codes.length + i + 4];
                System.arraycopy(codes, 0, cells, i, codes.length);
                Check.row(x, lane + 1, lane, cells);
                Check.due("bank of lane " + lane + " from " + i, x.bank(lane + 1, lane, i, codes.length), 3);
                Check.due("its seats", x.many(1), 2);
                Check.due("what it bears", x.many(2), 15);
                Check.due("its rows", x.many(3), 3);
                Check.due("the last shade's night", x.ofShade(2, 3), 29);
            }
        }
        String text = "r4994";
        for (int shades = 1; shades <= 6; shades++) {
            text += ";s010" + shades;
            Check.due("bank of " + text, Check.bank(new RowBack(), text), shades);
        }
        Check.due("bank up to the sheet's end", atTheEndOf(60, TEXT), 3);
        Check.due("bears 01", Check.of("r1011;s0100").many(2), 1);
        Check.due("bears 10", Check.of("r1101;s0100").many(2), 10);
        Check.due("bears 90", Check.of("r1901;s0100").many(2), 90);
    }

    private static int atTheEndOf(int length, String text) {
        RowBack x = new RowBack();
        int[] cells = new int[length];
        int from = length - text.length();
        System.arraycopy(Check.codes(text), 0, cells, from, text.length());
        Check.row(x, 2, 1, cells);
        return x.bank(2, 1, from, text.length());
    }

    /** Each place of a text takes just the codes that are told, whatever stands ahead. */
    private static void eachPlaceOf(String whole) {
        for (int place = 0; place < whole.length(); place++) {
            for (int code = 0; code < 128; code++) {
                String text = whole.substring(0, place) + (char) code + whole.substring(place + 1);
                boolean taken = allowedAt(place, text).indexOf(code) >= 0;
                // a text of all codes up to this one tells it, too
                int wrong = Check.bank(new RowBack(), text.substring(0, place + 1));
                boolean ends = place >= 10 && (place - 10) % 6 == 0;
                Check.due("place " + place + " code " + code, wrong, !taken ? -100 - place : ends ? (place - 4) / 6 : -101 - place);
            }
        }
    }

    private static void bankFindsFirstFault() {
        String whole = "r1011;s0100;s0100;s0100;s0100;s0100;s0100";
        eachPlaceOf(whole);
        eachPlaceOf("r4994;l3929;d3929;l3919;d2819;s1729;s3929");
        for (int n = 0; n < whole.length(); n++) {
            boolean ends = n >= 11 && (n - 11) % 6 == 0;
            Check.due("a text cut at " + n, Check.bank(new RowBack(), whole.substring(0, n)), ends ? (n - 5) / 6 : -100 - n);
        }
        Check.due("a seventh shade", Check.bank(new RowBack(), whole + ";s0100"), -141);
        Check.due("a code more", Check.bank(new RowBack(), whole + "x"), -141);
        Check.due("the first of two faults", Check.bank(new RowBack(), "r1051;x010x;s0100"), -106);
        Check.due("seats 0", Check.bank(new RowBack(), "r0011;s0100"), -101);
        Check.due("seats 5", Check.bank(new RowBack(), "r5011;s0100"), -101);
        Check.due("bears 00", Check.bank(new RowBack(), "r1001;s0100"), -103);
        Check.due("night 30", Check.bank(new RowBack(), "r1011;s0130"), -109);
        RowBack x = new RowBack();
        Check.row(x, 0, 2, 65536 + 'r', '1');
        Check.due("an int is not cut", x.bank(0, 2, 0, 2), -100);
        Check.row(x, 0, 2, 'r', -'1');
        Check.due("a code below 0", x.bank(0, 2, 0, 2), -101);
    }

    private static String allowedAt(int place, String text) {
        switch (place) {
            case 0: return "r";
            case 1: case 4: return "1234";
            case 2: return "0123456789";
            case 3: return text.charAt(2) == '0' ? "123456789" : "0123456789";
            default: return new String[] {";", "sdl", "0123", "123456789", "012", "0123456789"}[(place - 5) % 6];
        }
    }

    private static void bankRefuses() {
        RowBack x = Check.of("r1991;s1100");
        Check.row(x, 1, 1, 1, 2, 3);
        due(x, "no sheet ahead of all", x.bank(4, 3, -1, -1), -1, 0);
        due(x, "no sheet -1", x.bank(-1, 1, 0, 0), -1, 0);
        due(x, "no lane ahead of a fault", x.bank(1, 3, -1, -1), -2, 0);
        due(x, "no lane -1", x.bank(2, -1, 0, 0), -2, 0);
        due(x, "nothing", x.bank(2, 0, -1, -1), -11, 1);
        due(x, "another lane", x.bank(1, 0, -1, -1), -12, 2);
        due(x, "another lane", x.bank(1, 2, 0, 3), -12, 2);
        due(x, "a length below 0", x.bank(1, 1, -1, -1), -14, 4);
        due(x, "from below 0", x.bank(1, 1, -1, 0), -13, 3);
        due(x, "from beyond", x.bank(1, 1, 4, 0), -13, 3);
        due(x, "from the end", x.bank(1, 1, 3, 0), -100, 0);
        due(x, "cells beyond", x.bank(1, 1, 1, 3), -13, 3);
        due(x, "cells far beyond", x.bank(1, 1, 1, Integer.MAX_VALUE), -13, 3);
        due(x, "from far beyond", x.bank(1, 1, Integer.MAX_VALUE, 1), -13, 3);
        due(x, "a length far below 0", x.bank(1, 1, 0, Integer.MIN_VALUE), -14, 4);
        due(x, "from far below 0", x.bank(1, 1, Integer.MIN_VALUE, 1), -13, 3);
        due(x, "a fault of the text after a fault", x.bank(1, 1, 0, 3), -100, 0);
        Check.due("none of them changes the bank", x.many(0) * 10 + x.many(1), 11);
        Check.due("nor the sheet", x.cell(1, 2, 1), 3);
    }

    private static void due(RowBack x, String call, int got, int want, int fault) {
        Check.due(call, got, want);
        Check.due("fault after: " + call, x.fault(), fault);
    }

    private static void bankMakesAnew() {
        RowBack x = Check.of("r2994;s2100;l3200");
        x.law(2);
        x.loan(0, 1, 1);
        x.reading(0, 3, true);
        x.tell(0);
        Check.due("a text not taken", Check.bank(x, "r1011;s0100;"), -112);
        Check.due("changes nothing", x.many(0) * 1000 + x.many(4) * 100 + x.many(5) * 10 + x.many(6), 2112);
        Check.due("changes nothing", x.ofShade(0, 6) * 10 + x.many(1), 12);
        Check.row(x, 2, 2, 7);
        Check.due("a text taken", Check.bank(x, "r1011;s0100"), 1);
        Check.due("makes all anew", x.many(0) * 1000 + x.many(4) * 100 + x.many(5) * 10 + x.many(6), 1000);
        Check.due("coins anew", x.ofShade(0, 6), 0);
        Check.due("the second shade is gone", x.ofShade(1, 0), -1);
        Check.due("but for sheets", x.cell(2, 0, 2), 7);
        Check.due("but for trace", x.trace(), 1);
        Check.due("over is anew", x.over(0), 0);
        Check.due("no loan to undo", x.undo(1), -2);
        Check.due("no reading to take back", x.back(1), -2);
    }

    private static void ofShade() {
        RowBack x = Check.of(TEXT);
        int[][] due = {
            {0, 1, 4, 0, 1, 4, 1},
            {1, 0, 5, 2, 2, 7, 0},
            {2, 3, 1, 29, 3, 6, 3},
        };
        for (int s = 0; s < 3; s++) {
            for (int what = 0; what < 7; what++) {
                Check.due("ofShade(" + s + ", " + what + ")", x.ofShade(s, what), due[s][what]);
            }
            Check.due("ofShade what 7", x.ofShade(s, 7), -2);
            Check.due("ofShade what -1", x.ofShade(s, -1), -2);
        }
        x.loan(2, 1, 2);
        Check.due("coins as told", x.ofShade(2, 1), 3);
        Check.due("coins now", x.ofShade(2, 6), 1);
        Check.due("coins now of who borrowed", x.ofShade(1, 6), 2);
        Check.due("no shade ahead of what", x.ofShade(3, 7), -1);
        Check.due("no shade -1", x.ofShade(-1, 0), -1);
        Check.due("no shade without a bank", new RowBack().ofShade(0, 0), -1);
        Check.due("a living one of weight 9", Check.of("r1991;l0900").ofShade(0, 5), 22);
    }

    private static void law() {
        RowBack x = new RowBack();
        Check.due("law(3) without a bank", x.law(3), -2);
        Check.due("law(-1) without a bank", x.law(-1), -2);
        Check.due("law(2) without a bank", x.law(2), -3);
        Check.bank(x, TEXT);
        Check.due("law was", x.law(2), 0);
        Check.due("law was", x.law(1), 2);
        Check.due("law(3)", x.law(3), -2);
        Check.due("the law is", x.many(6), 1);
        Check.due("law was", x.law(1), 1);
        Check.due("law was", x.law(0), 1);
    }

    private static void loan() {
        RowBack x = Check.of("r1991;s3100;s2100;s0100");
        Check.due("no loan to oneself ahead of coins", x.loan(0, 0, 4), -1);
        Check.due("no lender", x.loan(3, 0, 0), -1);
        Check.due("no lender -1", x.loan(-1, 0, 1), -1);
        Check.due("no borrower", x.loan(0, 3, 1), -1);
        Check.due("no borrower -1", x.loan(0, -1, 1), -1);
        Check.due("0 coins", x.loan(2, 0, 0), -2);
        Check.due("4 coins ahead of state", x.loan(2, 0, 4), -2);
        Check.due("-1 coins", x.loan(0, 1, -1), -2);
        Check.due("not so many", x.loan(1, 0, 3), -3);
        Check.due("none at all", x.loan(2, 0, 1), -3);
        Check.due("nothing was lent", x.many(4), 0);
        Check.due("first loan", x.loan(0, 1, 3), 0);
        Check.due("what was lent is gone", x.loan(0, 1, 1), -3);
        Check.due("what was borrowed can be lent", x.loan(1, 2, 3), 1);
        Check.due("third loan", x.loan(1, 2, 2), 2);
        Check.due("coins now", x.ofShade(0, 6) * 100 + x.ofShade(1, 6) * 10 + x.ofShade(2, 6), 5);
        Check.due("fourth loan", x.loan(2, 0, 1), 3);
        Check.due("fifth loan", x.loan(2, 0, 1), 4);
        Check.due("sixth loan", x.loan(2, 1, 1), 5);
        Check.due("a state ahead of full", x.loan(1, 0, 2), -3);
        Check.due("full", x.loan(2, 0, 1), -4);
        Check.due("coins now", x.ofShade(0, 6) * 100 + x.ofShade(1, 6) * 10 + x.ofShade(2, 6), 212);
        Check.due("without a bank", new RowBack().loan(0, 1, 1), -1);
    }

    private static void undo() {
        RowBack x = Check.of("r1991;s3100;s2100;s0100");
        Check.due("undo(0) of none", x.undo(0), 0);
        Check.due("undo(1) of none", x.undo(1), -2);
        x.loan(0, 1, 1);
        x.loan(0, 2, 2);
        x.loan(1, 2, 3);
        Check.due("undo(-1)", x.undo(-1), -2);
        Check.due("undo(4)", x.undo(4), -2);
        Check.due("undo(0)", x.undo(0), 3);
        Check.due("the last one", x.undo(1), 2);
        Check.due("coins now", x.ofShade(0, 6) * 100 + x.ofShade(1, 6) * 10 + x.ofShade(2, 6), 32);
        Check.due("the next one's number", x.loan(2, 0, 1), 2);
        Check.due("the last two", x.undo(2), 1);
        Check.due("coins now", x.ofShade(0, 6) * 100 + x.ofShade(1, 6) * 10 + x.ofShade(2, 6), 230);
        Check.due("all", x.undo(1), 0);
        Check.due("without a bank", new RowBack().undo(0), 0);
        Check.due("without a bank", new RowBack().undo(1), -2);
    }

    private static void many() {
        RowBack x = Check.of(TEXT);
        x.loan(0, 1, 1);
        x.loan(2, 1, 1);
        x.reading(0, 0, true);
        x.law(2);
        int[] due = {3, 2, 15, 3, 2, 1, 2};
        for (int what = 0; what < 7; what++) {
            Check.due("many(" + what + ")", x.many(what), due[what]);
        }
        Check.due("many(7)", x.many(7), -2);
        Check.due("many(-1)", x.many(-1), -2);
    }
}
