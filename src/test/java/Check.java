/** What the tests share: counting of wrong answers, and texts put into sheets. */
final class Check {
    private static int wrong = 0;
    private static int asked = 0;
    private static String sentence = "";

    private Check() { }

    /** What the document says (in its words, perhaps shortened) of the answers that follow; told with a wrong one. */
    static void says(String words) {
        sentence = " (" + words + ")";
    }

    static void due(String call, long got, long want) {
        asked++;
        if (got == want) return;
        wrong++;
        if (wrong <= 100) System.out.println(call + " answered " + got + ", due is " + want + sentence);
    }

    static void due(String call, String got, String want) {
        asked++;
        if (got.equals(want)) return;
        wrong++;
        if (wrong <= 100) System.out.println(call + " answered " + got + ", due is " + want + sentence);
    }

    static void end() {
        System.out.println(wrong == 0 ? "all " + asked + " answers are as due" : wrong + " of " + asked + " answers are not as due");
        if (wrong != 0) System.exit(1);
    }

    /** A new object whose bank is by a text. */
    static RowBack of(String text) {
        RowBack x = new RowBack();
        due("bank of " + text, bank(x, text), (text.length() - 5) / 6);
        return x;
    }

    /** Takes a text by way of sheet 0, as bytes. */
    static int bank(RowBack x, String text) {
        row(x, 0, 0, codes(text));
        return x.bank(0, 0, 0, text.length());
    }

    static void row(RowBack x, int sheet, int lane, int... cells) {
        x.sheet(sheet, lane, cells.length);
        for (int i = 0; i < cells.length; i++) {
            x.put(sheet, i, cells[i]);
        }
    }

    static int crossings(RowBack x, int... sets) {
        row(x, 3, 2, sets);
        return x.crossings(3, 2, 0, sets.length);
    }

    static int[] codes(String text) {
        int[] codes = new int[text.length()];
        for (int i = 0; i < codes.length; i++) {
            codes[i] = text.charAt(i);
        }
        return codes;
    }
}
