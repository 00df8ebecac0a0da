import java.util.ArrayList;
import java.util.Comparator;
import java.util.HashMap;
import java.util.List;
import java.util.Map;
import java.util.regex.Pattern;

/**
 * The document once more, slow and in another form, to hold RowBack against:
 * a row is sorted anew each night, the least waiting tries every crossing, nothing is kept.
 */
final class Model {
    private static final int UNKNOWN = -1, OUTSIDE = -2, STATE = -3, FULL = -4, NONE = -9;
    private static final int NULL = 1, CAST = 2, INDEX = 3, SIZE = 4;
    private static final Pattern TEXT = Pattern.compile("r[1-4](0[1-9]|[1-9][0-9])[1-4](;[sdl][0-3][1-9][0-2][0-9]){1,6}");

    private record Shade(int number, int kind, int told, int weight, int comes) {
        int pays() {
            return kind + 1;
        }

        int heavy() {
            return kind == 0 ? weight : kind == 1 ? weight + 2 : (weight + 2) * 2;
        }
    }

    private record Loan(int from, int to, int coins) { }

    private record Reading(int s, int night, boolean was) { }

    private record Sheet(int lane, int[] cells) { }

    private record Night(int rower, int sits, int overBy) { }

    private final Sheet[] sheets = new Sheet[4];
    private List<Shade> shades = new ArrayList<>();
    private int seats, bears, rows, law, trace, fault;
    private List<Loan> loans = new ArrayList<>();
    private List<Reading> readings = new ArrayList<>();

    // ---- 1 the bank

    int bank(int sheet, int lane, int i, int n) {
        fault = 0;
        if (sheet < 0 || sheet > 3) return UNKNOWN;
        if (lane < 0 || lane > 2) return OUTSIDE;
        int found = cellsFault(sheet, lane, i, n);
        if (found != 0) return fail(found);
        StringBuilder made = new StringBuilder();
        for (int k = 0; k < n; k++) {
            int code = sheets[sheet].cells[i + k];
            made.append(code < 0 || code > 126 ? '?' : (char) code);
        }
        String text = made.toString();
        if (!TEXT.matcher(text).matches()) return -100 - firstFault(text);
        seats = text.charAt(1) - '0';
        bears = Integer.parseInt(text.substring(2, 4));
        rows = text.charAt(4) - '0';
        shades = new ArrayList<>();
        String[] parts = text.split(";");
        for (int k = 1; k < parts.length; k++) {
            String p = parts[k];
            shades.add(new Shade(k - 1, "sdl".indexOf(p.charAt(0)), p.charAt(1) - '0', p.charAt(2) - '0', Integer.parseInt(p.substring(3))));
        }
        law = 0;
        loans = new ArrayList<>();
        readings = new ArrayList<>();
        return shades.size();
    }

    /** The first place up to which the text can't be made whole by any ending. */
    private static int firstFault(String text) {
        for (int place = 0; place < text.length(); place++) {
            if (!startsOne(text.substring(0, place + 1))) return place;
        }
        return text.length();
    }

    private static boolean startsOne(String head) {
        String whole = "r1011;s0100;s0100;s0100;s0100;s0100;s0100";
        if (head.length() > whole.length()) return false;
        return TEXT.matcher(head + whole.substring(head.length())).matches();
    }

    int ofShade(int s, int what) {
        if (!known(s)) return UNKNOWN;
        if (what < 0 || what > 6) return OUTSIDE;
        Shade shade = shades.get(s);
        return new int[] {shade.kind, shade.told, shade.weight, shade.comes, shade.pays(), shade.heavy(), coins().get(s)}[what];
    }

    int law(int v) {
        if (v < 0 || v > 2) return OUTSIDE;
        if (shades.isEmpty()) return STATE;
        int was = law;
        law = v;
        return was;
    }

    int loan(int from, int to, int coins) {
        if (!known(from) || !known(to) || from == to) return UNKNOWN;
        if (coins < 1 || coins > 3) return OUTSIDE;
        if (coins().get(from) < coins) return STATE;
        if (loans.size() >= 6) return FULL;
        loans.add(new Loan(from, to, coins));
        return loans.size() - 1;
    }

    int undo(int k) {
        if (k < 0 || k > loans.size()) return OUTSIDE;
        for (int each = 0; each < k; each++) loans.remove(loans.size() - 1);
        return loans.size();
    }

    // ---- 2 nights

    int over(int s) {
        return known(s) ? overOn(nights(coins(), law), s) : UNKNOWN;
    }

    int overBy(int night) {
        if (night < 0 || night > 59) return UNKNOWN;
        return shades.isEmpty() ? STATE : nights(coins(), law).get(night).overBy;
    }

    int rower(int night) {
        if (night < 0 || night > 59) return UNKNOWN;
        return shades.isEmpty() ? STATE : nights(coins(), law).get(night).rower;
    }

    int sits(int night) {
        if (night < 0 || night > 59) return UNKNOWN;
        return shades.isEmpty() ? STATE : nights(coins(), law).get(night).sits;
    }

    int waits(int s) {
        return known(s) ? waitsOf(nights(coins(), law), s) : UNKNOWN;
    }

    int allWait() {
        return shades.isEmpty() ? STATE : all(nights(coins(), law));
    }

    // ---- 3 crossings, laws

    int crossings(int sheet, int lane, int i, int n) {
        fault = 0;
        if (sheet < 0 || sheet > 3) return UNKNOWN;
        if (lane < 0 || lane > 2) return OUTSIDE;
        if (shades.isEmpty()) return STATE;
        int found = cellsFault(sheet, lane, i, n);
        if (found != 0) return fail(found);
        if (n > 20) return OUTSIDE;
        for (int k = 0; k < n; k++) {
            int cell = sheets[sheet].cells[i + k];
            if (cell < 0 || cell >= 1 << shades.size()) return OUTSIDE;
        }
        int over = 0;
        for (int night = 0; night < n; night++) {
            int set = sheets[sheet].cells[i + night];
            if (!mayCross(set, over, night)) return night;
            over |= set;
        }
        return NONE;
    }

    private boolean mayCross(int set, int over, int night) {
        int count = 0;
        int heavy = 0;
        for (Shade shade : shades) {
            if (!has(set, shade.number)) continue;
            if (shade.comes > night || has(over, shade.number) || coins().get(shade.number) < shade.pays()) return false;
            count++;
            heavy += shade.heavy();
        }
        return count <= seats && heavy <= bears;
    }

    int least() {
        return shades.isEmpty() ? STATE : leastFrom(0, 0, new HashMap<>());
    }

    private int leastFrom(int night, int over, Map<Integer, Integer> found) {
        if (night == 60) return 0;
        Integer before = found.get(night * 64 + over);
        if (before != null) return before;
        int least = Integer.MAX_VALUE;
        for (int set = 0; set < 1 << shades.size(); set++) {
            if (!mayCross(set, over, night)) continue;
            int left = 0;
            for (Shade shade : shades) {
                if (shade.comes <= night && !has(over | set, shade.number)) left++;
            }
            least = Math.min(least, left + leastFrom(night + 1, over | set, found));
        }
        found.put(night * 64 + over, least);
        return least;
    }

    int laws(int w) {
        if (w < 0 || w > 60) return OUTSIDE;
        if (shades.isEmpty()) return STATE;
        int set = 0;
        for (int v = 0; v < 3; v++) {
            List<Night> nights = nights(coins(), v);
            if (shades.stream().allMatch(shade -> waitsOf(nights, shade.number) <= w)) set += 1 << v;
        }
        return set;
    }

    // ---- 4 loans, who paid

    int gain(int what) {
        if (what < 0 || what > 1) return OUTSIDE;
        if (shades.isEmpty()) return STATE;
        int least = allWait();
        int best = NONE;
        for (int pair = 0; pair < 60; pair++) {
            int from = pair / 10;
            int to = pair % 10;
            if (!known(from) || !known(to) || from == to || coins().get(from) == 0) continue;
            int wait = all(nightsWith(new Loan(from, to, 1)));
            if (wait >= least) continue;
            least = wait;
            best = pair;
        }
        return what == 0 ? best : least;
    }

    int favours(int s) {
        if (!known(s)) return UNKNOWN;
        if (shades.get(s).kind != 2) return STATE;
        for (int coins = 0; coins <= 9; coins++) {
            List<Integer> tried = coins();
            int lent = loans.stream().filter(loan -> loan.from == s).mapToInt(Loan::coins).sum();
            tried.set(s, shades.get(s).told - lent + coins);
            if (overOn(nights(tried, law), s) != NONE) return coins;
        }
        return NONE;
    }

    int reading(int s, int night, boolean was) {
        if (!known(s) || night < 0 || night > 59) return UNKNOWN;
        if (readings.size() >= 6) return FULL;
        readings.add(new Reading(s, night, was));
        return readings.size() - 1;
    }

    int back(int k) {
        if (k < 0 || k > readings.size()) return OUTSIDE;
        readings = new ArrayList<>(readings.subList(0, readings.size() - k));
        return readings.size();
    }

    int payers(int s) {
        if (!known(s)) return UNKNOWN;
        int set = 0;
        for (Shade payer : shades) {
            boolean may = payer.number != s && coins().get(payer.number) > 0;
            if (may && allSo(nightsWith(new Loan(payer.number, s, 1)))) set += 1 << payer.number;
        }
        return set;
    }

    int rules() {
        if (shades.isEmpty()) return STATE;
        int set = 0;
        for (int v = 0; v < 3; v++) {
            if (allSo(nights(coins(), v))) set += 1 << v;
        }
        return set;
    }

    // ---- 5 sheets, parts

    int sheet(int k, int lane, int n) {
        fault = 0;
        if (k < 0 || k > 3) return UNKNOWN;
        if (lane < 0 || lane > 2 || n > 60) return OUTSIDE;
        if (n < 0) return fail(SIZE);
        sheets[k] = new Sheet(lane, new int[n]);
        return 1;
    }

    int lose(int k) {
        if (k < 0 || k > 3) return UNKNOWN;
        boolean had = sheets[k] != null;
        sheets[k] = null;
        return had ? 1 : 0;
    }

    int put(int k, int i, int v) {
        fault = 0;
        if (k < 0 || k > 3) return UNKNOWN;
        if (sheets[k] == null) return fail(NULL);
        if (i < 0 || i >= sheets[k].cells.length) return fail(INDEX);
        sheets[k].cells[i] = sheets[k].lane == 0 ? (byte) v : sheets[k].lane == 1 ? (short) v : v;
        return 1;
    }

    long cell(int k, int i, int lane) {
        fault = 0;
        if (k < 0 || k > 3 || lane < 0 || lane > 2) return Long.MIN_VALUE;
        int found = cellsFault(k, lane, i, 1);
        if (found != 0) {
            fault = found;
            return Long.MIN_VALUE;
        }
        return sheets[k].cells[i];
    }

    int copy(int k, int i, int other, int j, int n) {
        fault = 0;
        if (k < 0 || k > 3 || other < 0 || other > 3) return UNKNOWN;
        if (sheets[k] == null || sheets[other] == null) return fail(NULL);
        if (sheets[k].lane != sheets[other].lane) return fail(CAST);
        int[] cells = sheets[k].cells.clone();
        boolean inside = n >= 0 && i >= 0 && j >= 0 && (long) i + n <= cells.length && (long) j + n <= sheets[other].cells.length;
        if (!inside) return fail(INDEX);
        for (int at = 0; at < n; at++) sheets[other].cells[j + at] = cells[i + at];
        return n;
    }

    int tell(int s) {
        if (!known(s)) return UNKNOWN;
        int[][] bodies = {{1}, {2, 1}, {3, 2, 1, 1}};
        for (int body : bodies[shades.get(s).kind]) trace = trace * 31 + body;
        int weight = shades.get(s).weight;
        return new int[] {weight, weight + 100, weight + 100 + weight}[shades.get(s).kind];
    }

    int hail(int s) {
        if (!known(s)) return UNKNOWN;
        boolean living = shades.get(s).kind == 2;
        trace = trace * 31 + (living ? 5 : 4);
        return living ? 60 : s;
    }

    int as(int s, int kind) {
        fault = 0;
        if (!known(s)) return UNKNOWN;
        if (kind < 0 || kind > 2) return OUTSIDE;
        return shades.get(s).kind >= kind ? 1 : fail(CAST);
    }

    int trace() {
        return trace;
    }

    int fault() {
        return fault;
    }

    int many(int what) {
        if (what < 0 || what > 6) return OUTSIDE;
        return new int[] {shades.size(), seats, bears, rows, loans.size(), readings.size(), law}[what];
    }

    // ---- what the calls share

    private static boolean has(int set, int s) {
        return (set & 1 << s) != 0;
    }

    private boolean known(int s) {
        return s >= 0 && s < shades.size();
    }

    private int fail(int found) {
        fault = found;
        return -10 - found;
    }

    private int cellsFault(int sheet, int lane, int i, int n) {
        if (sheets[sheet] == null) return NULL;
        if (sheets[sheet].lane != lane) return CAST;
        if (n < 0) return SIZE;
        int length = sheets[sheet].cells.length;
        return i < 0 || i > length || (long) i + n > length ? INDEX : 0;
    }

    private List<Integer> coins() {
        List<Integer> coins = new ArrayList<>();
        for (Shade shade : shades) coins.add(shade.told);
        for (Loan loan : loans) lend(coins, loan);
        return coins;
    }

    private static void lend(List<Integer> coins, Loan loan) {
        coins.set(loan.from, coins.get(loan.from) - loan.coins);
        coins.set(loan.to, coins.get(loan.to) + loan.coins);
    }

    private List<Night> nightsWith(Loan loan) {
        List<Integer> coins = coins();
        lend(coins, loan);
        return nights(coins, law);
    }

    private List<Night> nights(List<Integer> coins, int law) {
        Comparator<Shade> first = switch (law) {
            case 0 -> Comparator.comparingInt(Shade::comes);
            case 1 -> Comparator.comparingInt(Shade::heavy);
            default -> Comparator.comparingInt(shade -> -coins.get(shade.number));
        };
        List<Shade> near = new ArrayList<>(shades);
        Map<Shade, Integer> rowed = new HashMap<>();
        List<Night> nights = new ArrayList<>();
        int over = 0;
        for (int night = 0; night < 60; night++) {
            int now = night;
            List<Shade> row = new ArrayList<>(near.stream().filter(shade -> shade.comes <= now).toList());
            row.sort(first.thenComparingInt(Shade::number));
            int rower = row.isEmpty() ? NONE : 9;
            int sits = 0;
            int seatsLeft = seats;
            int bearsStill = bears;
            for (Shade shade : row) {
                if (coins.get(shade.number) < shade.pays()) {
                    if (rower != 9) continue;
                    rower = shade.number;
                    if (rowed.merge(shade, 1, Integer::sum) == rows) {
                        over += 1 << rower;
                        near.remove(shade);
                    }
                } else if (seatsLeft > 0 && shade.heavy() <= bearsStill) {
                    seatsLeft--;
                    bearsStill -= shade.heavy();
                    sits += 1 << shade.number;
                    near.remove(shade);
                }
            }
            over += sits;
            nights.add(new Night(rower, sits, over));
        }
        return nights;
    }

    private static int overOn(List<Night> nights, int s) {
        for (int night = 0; night < 60; night++) {
            if (has(nights.get(night).overBy, s)) return night;
        }
        return NONE;
    }

    private int waitsOf(List<Night> nights, int s) {
        int over = overOn(nights, s);
        return (over == NONE ? 60 : over) - shades.get(s).comes;
    }

    private int all(List<Night> nights) {
        return shades.stream().mapToInt(shade -> waitsOf(nights, shade.number)).sum();
    }

    private boolean allSo(List<Night> nights) {
        return readings.stream().allMatch(reading -> has(nights.get(reading.night).overBy, reading.s) == reading.was);
    }
}
