import java.util.ArrayList;
import java.util.Arrays;
import java.util.List;
import java.util.Random;

/**
 * A slow model, told as the document tells it (second by second, cup by cup, all rows of cars),
 * beside the class in runs of 512 calls by fixed seeds.
 */
public final class FrostHoleModel {
    private static final int NONE = -1, BAD = -2, NOT = -3, FULL = -4;
    private static final int RUNS = 600;
    private static final int CALLS = 512;

    private final StringBuilder[] texts = {new StringBuilder(), new StringBuilder()};
    private final int[] limit = {35, 40};
    private final int[] seconds = {5, 8, 2, 12};
    private final int[] holds = {99, 99, 99, 99};
    private final int[][] looks = new int[5][32];
    private final List<int[]> strokes = new ArrayList<>();
    private final List<int[]> cars = new ArrayList<>();
    private final Object[] sheets = new Object[4];
    private int finding = 0;

    FrostHoleModel() {
        Arrays.fill(looks[0], 1);
    }

    private static boolean in(int v, int a, int b) {
        return a <= v && v <= b;
    }

    private int find(int number) {
        finding = number;
        return -10 - number;
    }

    // ---- the state as the document tells it

    int faultOf(int text) {
        String t = texts[text].toString();
        if (text == 1) {
            for (int i = 0; i < t.length(); i++) if (".lrsx".indexOf(t.charAt(i)) < 0) return i;
            return NONE;
        }
        if (t.isEmpty() || wellPane(t)) return NONE;
        for (int i = 0; i < t.length(); i++) if (!goesOn(t.substring(0, i + 1))) return i;
        return t.length();
    }

    private static boolean wellPane(String t) {
        if (!t.matches("[0-9]{1,8}(;[0-9]{1,8}){0,3}")) return false;
        String[] rows = t.split(";");
        for (String row : rows) if (row.length() != rows[0].length()) return false;
        return true;
    }

    /** Whether some well pane, or one that a fifth row alone makes ill, begins so. */
    private static boolean goesOn(String t) {
        for (int width = 1; width <= 8; width++) {
            String row = "0".repeat(width);
            String whole = row + ";" + row + ";" + row + ";" + row + ";";
            if (whole.startsWith(t.replaceAll("[0-9]", "0"))) return true;
        }
        return false;
    }

    int[] told() {
        int[] cells = new int[32];
        Arrays.fill(cells, -1);
        String t = texts[0].toString();
        if (t.isEmpty() || faultOf(0) != NONE) return cells;
        String[] rows = t.split(";");
        for (int r = 0; r < rows.length; r++)
            for (int c = 0; c < rows[r].length(); c++) cells[8 * r + c] = rows[r].charAt(c) - '0';
        return cells;
    }

    String road() {
        return faultOf(1) == NONE ? texts[1].toString() : "";
    }

    /** Thick cells behind k strokes; done and what tools do still go to the rows given. */
    int[] behind(int k, boolean[] done, int[] still, int[] spent) {
        int[] cells = told();
        System.arraycopy(holds, 0, still, 0, 4);
        spent[0] = 0;
        for (int i = 0; i < k; i++) {
            int tool = strokes.get(i)[0], cell = strokes.get(i)[1];
            done[i] = cells[cell] > 0 && still[tool] >= cells[cell];
            if (done[i]) {
                still[tool] -= cells[cell];
                spent[0] += cells[cell] * seconds[tool];
                cells[cell] = 0;
            }
        }
        return cells;
    }

    int[] now() {
        return behind(strokes.size(), new boolean[40], new int[4], new int[1]);
    }

    int riskAt(int[] cells, char stretch) {
        int sum = 0;
        for (int c = 0; c < 32; c++) if (cells[c] > 0) sum += looks[".lrsx".indexOf(stretch)][c];
        return sum;
    }

    int roadRisk(int[] cells) {
        int sum = 0;
        for (char stretch : road().toCharArray()) sum += riskAt(cells, stretch);
        return sum;
    }

    List<Integer> firsts(int tool) {
        int[] cells = now();
        List<Integer> row = new ArrayList<>();
        int[] falls = new int[32];
        for (int c = 0; c < 32; c++) {
            if (cells[c] <= 0) continue;
            int[] without = cells.clone();
            without[c] = 0;
            falls[c] = roadRisk(cells) - roadRisk(without);
            if (falls[c] > 0) row.add(c);
        }
        row.sort((a, b) -> {
            long left = (long) falls[a] * cells[b] * seconds[tool], right = (long) falls[b] * cells[a] * seconds[tool];
            return left != right ? Long.compare(right, left) : Integer.compare(a, b);
        });
        return row;
    }

    int[] stops(int tool, int c, int v) {
        int[] cells = now();
        List<Integer> row = firsts(tool);
        int best = 0, least = v * roadRisk(cells), spent = 0;
        for (int n = 1; n <= row.size(); n++) {
            int cell = row.get(n - 1);
            spent += cells[cell] * seconds[tool];
            cells[cell] = 0;
            int paid = c * spent + v * roadRisk(cells);
            if (paid < least) {
                least = paid;
                best = n;
            }
        }
        return new int[] {best, least};
    }

    static boolean allClear(int[] cells) {
        for (int c : cells) if (c > 0) return false;
        return true;
    }

    int warmth(int m, int tool, boolean withTool) {
        int[] cells = now();
        int at = NONE, end = NONE;
        for (int second = 0; ; second++) {
            if (second > 0 && second % m == 0) for (int c = 0; c < 32; c++) if (cells[c] > 0) cells[c]--;
            if (at != NONE && end == second) {
                cells[at] = 0;
                at = NONE;
            }
            if (allClear(cells)) return second;
            if (withTool && at == NONE) {
                at = 0;
                for (int c = 1; c < 32; c++) if (cells[c] > cells[at]) at = c;
                end = second + cells[at] * seconds[tool];
            }
        }
    }

    int cups(int w, int k) {
        int[] cells = now();
        int cleared = 0;
        for (int cup = 0; cup < k; cup++) {
            int at = NONE;
            for (int c = 0; c < 32; c++) if (cells[c] > 0 && (at == NONE || cells[c] < cells[at])) at = c;
            if (at == NONE) break;
            cells[at] = Math.max(0, cells[at] - w / 10);
            if (cells[at] == 0) cleared++;
        }
        return cleared;
    }

    int[] white(int people, int b, int t) {
        boolean[] white = new boolean[121];
        int damp = 0;
        for (int minute = 0; minute <= 120; minute++) {
            damp += people;
            if (minute >= t) damp = Math.max(0, damp - b);
            white[minute] = damp > 10;
        }
        int first = NONE, from = 0;
        for (int minute = 120; minute >= 0; minute--) if (white[minute]) first = minute;
        for (int minute = 0; minute <= 120; minute++) if (white[minute]) from = minute + 1;
        return new int[] {first, from == 121 ? NONE : from};
    }

    static int frost(int sky, int wind, int wall) {
        int f = 6;
        if (sky == 1) f -= 4;
        f = Math.max(0, f - wind);
        if (wall == 1) f -= f / 2;
        return f;
    }

    long[] mean(int p, int wind, int wall, int tool) {
        long cells = Arrays.stream(told()).filter(c -> c >= 0).count();
        long above = cells * seconds[tool] * ((long) p * frost(0, wind, wall) + (16L - p) * frost(1, wind, wall));
        long below = 16;
        for (long d = 16; d > 1; d--) {
            if (above % d == 0 && below % d == 0) {
                above /= d;
                below /= d;
            }
        }
        return new long[] {above, below};
    }

    private int bestLate;
    private int[] bestRow;

    void tryRows(int[] row, int n, boolean[] used, int time, int late) {
        if (n == row.length) {
            if (bestRow == null || late < bestLate) {
                bestLate = late;
                bestRow = row.clone();
            }
            return;
        }
        for (int car = 0; car < row.length; car++) {
            if (used[car]) continue;
            used[car] = true;
            row[n] = car;
            int done = time + cars.get(car)[0];
            tryRows(row, n + 1, used, done, late + Math.max(0, done - cars.get(car)[1]));
            used[car] = false;
        }
    }

    int lentOf(int i) {
        bestRow = null;
        tryRows(new int[cars.size()], 0, new boolean[cars.size()], 0, 0);
        if (i == NONE) return bestLate;
        return i < bestRow.length ? bestRow[i] : NONE;
    }

    int facing() {
        int[] cells = told();
        boolean rises = false, falls = false;
        for (int r = 0; r < 4; r++)
            for (int c = 0; c < 7; c++) {
                int a = cells[8 * r + c], b = cells[8 * r + c + 1];
                if (b < 0) continue;
                rises |= b > a;
                falls |= b < a;
            }
        return rises && !falls ? 0 : falls && !rises ? 1 : NONE;
    }

    static int formOf(Object sheet) {
        return sheet instanceof byte[] ? 0 : sheet instanceof short[] ? 1 : 2;
    }

    static int size(Object sheet) {
        return java.lang.reflect.Array.getLength(sheet);
    }

    static int item(Object sheet, int i) {
        return sheet instanceof byte[] ? ((byte[]) sheet)[i]
            : sheet instanceof short[] ? ((short[]) sheet)[i] : ((int[]) sheet)[i];
    }

    static void put(Object sheet, int i, int v) {
        if (sheet instanceof byte[]) ((byte[]) sheet)[i] = (byte) v;
        else if (sheet instanceof short[]) ((short[]) sheet)[i] = (short) v;
        else ((int[]) sheet)[i] = v;
    }

    // ---- the calls by number: what the model answers

    long answer(int call, int[] a) {
        switch (call) {
            case 0: {
                if (!in(a[0], 0, 1) || !in(a[1], 0, 255)) return BAD;
                if (texts[a[0]].length() == limit[a[0]]) return FULL;
                return texts[a[0]].append((char) a[1]).length();
            }
            case 1: {
                if (!in(a[0], 0, 1)) return BAD;
                int had = texts[a[0]].length();
                texts[a[0]].setLength(0);
                return had;
            }
            case 2: {
                if (!in(a[0], 0, 1)) return BAD;
                if (texts[a[0]].length() == 0) return NOT;
                texts[a[0]].setLength(texts[a[0]].length() - 1);
                return texts[a[0]].length();
            }
            case 3: return in(a[0], 0, 1) ? faultOf(a[0]) : BAD;
            case 4: {
                if (!in(a[0], 0, 3) || !in(a[1], 0, 1)) return BAD;
                if (a[1] == 0 ? !in(a[2], 1, 60) : !in(a[2], 0, 99)) return BAD;
                int[] row = a[1] == 0 ? seconds : holds;
                int was = row[a[0]];
                row[a[0]] = a[2];
                return was;
            }
            case 5: {
                if (!in(a[0], 0, 4) || !in(a[1], 0, 31) || !in(a[2], 0, 9)) return BAD;
                int was = looks[a[0]][a[1]];
                looks[a[0]][a[1]] = a[2];
                return was;
            }
            case 6: {
                if (!in(a[0], 0, 3) || !in(a[1], 0, 4)) return BAD;
                if (sheets[a[0]] == null) return find(1);
                int n = 0;
                while (n < 32 && n < size(sheets[a[0]]) && in(item(sheets[a[0]], n), 0, 9)) {
                    looks[a[1]][n] = item(sheets[a[0]], n);
                    n++;
                }
                return n;
            }
            case 7: {
                if (!in(a[0], 0, 3) || !in(a[1], 0, 31)) return BAD;
                if (strokes.size() == 40) return FULL;
                strokes.add(new int[] {a[0], a[1]});
                return strokes.size();
            }
            case 8: {
                if (strokes.isEmpty()) return NOT;
                strokes.remove(strokes.size() - 1);
                return strokes.size();
            }
            default: return call < 20 ? answerMorning(call, a) : call < 30 ? answerStreet(call, a) : answerSheets(call, a);
        }
    }

    private long answerMorning(int call, int[] a) {
        int n = strokes.size();
        boolean[] done = new boolean[40];
        int[] still = new int[4], spent = new int[1];
        int[] cells = behind(n, done, still, spent);
        switch (call) {
            case 9: {
                for (int i = 0; i < n; i++) if (!done[i]) return i;
                return NONE;
            }
            case 10: {
                if (!in(a[0], 0, n) || !in(a[1], 0, 31) || told()[a[1]] < 0) return BAD;
                return behind(a[0], done, still, spent)[a[1]];
            }
            case 11: {
                if (!in(a[0], 0, n) || !in(a[1], 0, 2)) return BAD;
                cells = behind(a[0], done, still, spent);
                return a[1] == 0 ? spent[0] : a[1] == 1 ? roadRisk(cells) : Arrays.stream(cells).filter(c -> c == 0).count();
            }
            case 12: return in(a[0], 0, 3) ? still[a[0]] : BAD;
            case 13: return in(a[0], 0, road().length() - 1) ? riskAt(cells, road().charAt(a[0])) : BAD;
            case 14: return in(a[0], 0, 3) ? seconds[a[0]] * Arrays.stream(cells).filter(c -> c > 0).sum() : BAD;
            case 15: {
                if (!in(a[0], 0, 3) || !in(a[1], -1, 31)) return BAD;
                List<Integer> row = firsts(a[0]);
                return a[1] == -1 ? row.size() : a[1] < row.size() ? row.get(a[1]) : NONE;
            }
            case 16: {
                if (!in(a[0], 0, 3) || !in(a[1], 0, 99) || !in(a[2], 0, 99) || !in(a[3], 0, 1)) return BAD;
                return stops(a[0], a[1], a[2])[a[3]];
            }
            case 17: {
                if (!in(a[0], 1, 60) || !in(a[1], 0, 3) || !in(a[2], 0, 1)) return BAD;
                return warmth(a[0], a[1], a[2] == 1);
            }
            case 18: {
                if (!in(a[0], -1, 99) || !in(a[1], 0, 30)) return BAD;
                if (a[0] >= 0) return a[0] + a[1] > 40 ? 1 : 0;
                int most = 0;
                for (int w = 0; w <= 99; w++) if (w + a[1] <= 40) most = w;
                return most;
            }
            default: {
                if (!in(a[0], 0, 99) || !in(a[1], 0, 30) || !in(a[2], 0, 99)) return BAD;
                return a[0] + a[1] > 40 ? NOT : cups(a[0], a[2]);
            }
        }
    }

    private long answerStreet(int call, int[] a) {
        switch (call) {
            case 20: {
                if (!in(a[0], 1, 5) || !in(a[1], 0, 9) || !in(a[2], 0, 60) || !in(a[3], 0, 1)) return BAD;
                return white(a[0], a[1], a[2])[a[3]];
            }
            case 21: return in(a[0], 0, 1) && in(a[1], 0, 3) && in(a[2], 0, 1) ? frost(a[0], a[1], a[2]) : BAD;
            case 22: {
                if (!in(a[0], 0, 16) || !in(a[1], 0, 3) || !in(a[2], 0, 1) || !in(a[3], 0, 3) || !in(a[4], 0, 1))
                    return Long.MIN_VALUE + 2;
                return mean(a[0], a[1], a[2], a[3])[a[4]];
            }
            case 23: {
                if (!in(a[0], 0, 16) || !in(a[1], 0, 9999) || !in(a[2], 0, 16) || !in(a[3], 0, 9999)) return BAD;
                long[] mean = mean(a[0], 0, 0, 0);
                return (16L * a[1] + (long) a[2] * a[3]) * mean[1] < 16 * mean[0] ? 1 : 0;
            }
            case 24: {
                if (!in(a[0], 1, 9999) || !in(a[1], 0, 9999)) return BAD;
                if (cars.size() == 7) return FULL;
                cars.add(new int[] {a[0], a[1]});
                return cars.size();
            }
            case 25: {
                if (cars.isEmpty()) return NOT;
                cars.remove(cars.size() - 1);
                return cars.size();
            }
            case 26: return in(a[0], -1, 6) ? lentOf(a[0]) : BAD;
            case 27: return facing();
            default: {
                if (!in(a[0], 0, road().length() - 1) || !in(a[1], 0, 999) || !in(a[2], 0, 99)) return BAD;
                return a[1] < a[2] * riskAt(now(), road().charAt(a[0])) ? 1 : 0;
            }
        }
    }

    private int itemFinding(int s, int form, int i) {
        return sheets[s] == null ? 1 : formOf(sheets[s]) != form ? 3 : !in(i, 0, size(sheets[s]) - 1) ? 2 : 0;
    }

    private long answerSheets(int call, int[] a) {
        switch (call) {
            case 30: {
                if (!in(a[0], 0, 3) || !in(a[1], 0, 2) || a[2] > 60) return BAD;
                if (a[2] < 0) return find(5);
                sheets[a[0]] = a[1] == 0 ? new byte[a[2]] : a[1] == 1 ? new short[a[2]] : (Object) new int[a[2]];
                return a[2];
            }
            case 31: {
                if (!in(a[0], 0, 3)) return BAD;
                if (sheets[a[0]] == null) return find(1);
                int had = size(sheets[a[0]]);
                sheets[a[0]] = null;
                return had;
            }
            case 32: {
                if (!in(a[0], 0, 3) || !in(a[1], 0, 2)) return BAD;
                int found = itemFinding(a[0], a[1], a[2]);
                if (found != 0) return find(found);
                put(sheets[a[0]], a[2], a[3]);
                return 1;
            }
            case 33: {
                if (!in(a[0], 0, 3) || !in(a[1], 0, 2)) return Integer.MIN_VALUE;
                int found = itemFinding(a[0], a[1], a[2]);
                if (found != 0) {
                    finding = found;
                    return Integer.MIN_VALUE;
                }
                return item(sheets[a[0]], a[2]);
            }
            case 34: {
                if (!in(a[0], 0, 3) || !in(a[2], 0, 3)) return BAD;
                Object from = sheets[a[0]], to = sheets[a[2]];
                if (from == null || to == null) return find(1);
                if (formOf(from) != formOf(to)) return find(4);
                if (a[1] < 0 || a[3] < 0 || a[4] < 0) return find(2);
                if ((long) a[1] + a[4] > size(from) || (long) a[3] + a[4] > size(to)) return find(2);
                int[] were = new int[a[4]];
                for (int i = 0; i < a[4]; i++) were[i] = item(from, a[1] + i);
                for (int i = 0; i < a[4]; i++) put(to, a[3] + i, were[i]);
                return 1;
            }
            case 35: {
                if (!in(a[0], 0, 3) || !in(a[1], 0, 3)) return BAD;
                if (sheets[a[1]] == null) return find(1);
                List<Integer> row = firsts(a[0]);
                int n = Math.min(row.size(), size(sheets[a[1]]));
                for (int i = 0; i < n; i++) put(sheets[a[1]], i, row.get(i));
                return n;
            }
            case 36: return counted(a[0]);
            default: return digested();
        }
    }

    private long counted(int what) {
        boolean[] done = new boolean[40];
        behind(strokes.size(), done, new int[4], new int[1]);
        int many = 0;
        for (boolean d : done) many += d ? 1 : 0;
        switch (what) {
            case 0: return Arrays.stream(told()).filter(c -> c >= 0).count();
            case 1: return road().length();
            case 2: return texts[0].length();
            case 3: return texts[1].length();
            case 4: return strokes.size();
            case 5: return many;
            case 6: return Arrays.stream(told()).filter(c -> c > 0).sum();
            case 7: return cars.size();
            case 8: return finding;
            default: return BAD;
        }
    }

    private long h;

    private void mix(int call, int... a) {
        h = 31 * h + answer(call, a);
    }

    private long digested() {
        h = 17;
        for (int what = 0; what <= 7; what++) mix(36, what);
        mix(3, 0);
        mix(3, 1);
        mix(9);
        for (int what = 0; what <= 2; what++) mix(11, strokes.size(), what);
        for (int tool = 0; tool < 4; tool++) {
            mix(12, tool);
            mix(14, tool);
            for (int i = -1; i <= 1; i++) mix(15, tool, i);
            for (int what = 0; what <= 1; what++) mix(16, tool, 1, 3, what);
            for (int what = 0; what <= 1; what++) mix(17, 20, tool, what);
            for (int what = 0; what <= 1; what++) mix(22, 6, 1, 0, tool, what);
        }
        for (int stretch = 0; stretch < road().length(); stretch++) {
            mix(13, stretch);
            mix(28, stretch, 30, 2);
        }
        mix(19, 30, 6, 5);
        for (int what = 0; what <= 1; what++) mix(20, 3, 4, 5, what);
        mix(23, 8, 60, 4, 90);
        for (int i = -1; i <= 1; i++) mix(26, i);
        mix(27);
        return h;
    }

    // ---- the same calls of the class

    static long ask(FrostHole x, int call, int[] a) {
        switch (call) {
            case 0: return x.type(a[0], a[1]);
            case 1: return x.wipe(a[0]);
            case 2: return x.undo(a[0]);
            case 3: return x.fault(a[0]);
            case 4: return x.tool(a[0], a[1], a[2]);
            case 5: return x.looks(a[0], a[1], a[2]);
            case 6: return x.read(a[0], a[1]);
            case 7: return x.stroke(a[0], a[1]);
            case 8: return x.back();
            case 9: return x.judged();
            case 10: return x.thick(a[0], a[1]);
            case 11: return x.state(a[0], a[1]);
            case 12: return x.left(a[0]);
            case 13: return x.risk(a[0]);
            case 14: return x.all(a[0]);
            case 15: return x.first(a[0], a[1]);
            case 16: return x.stop(a[0], a[1], a[2], a[3]);
            case 17: return x.warm(a[0], a[1], a[2]);
            case 18: return x.crack(a[0], a[1]);
            case 19: return x.melts(a[0], a[1], a[2]);
            case 20: return x.again(a[0], a[1], a[2], a[3]);
            case 21: return x.night(a[0], a[1], a[2]);
            case 22: return x.tonight(a[0], a[1], a[2], a[3], a[4]);
            case 23: return x.cover(a[0], a[1], a[2], a[3]);
            case 24: return x.car(a[0], a[1]);
            case 25: return x.gone();
            case 26: return x.lent(a[0]);
            case 27: return x.faced();
            case 28: return x.bend(a[0], a[1], a[2]);
            case 30: return x.sheet(a[0], a[1], a[2]);
            case 31: return x.lose(a[0]);
            case 32: return x.lay(a[0], a[1], a[2], a[3]);
            case 33: return x.get(a[0], a[1], a[2]);
            case 34: return x.copy(a[0], a[1], a[2], a[3], a[4]);
            case 35: return x.write(a[0], a[1]);
            case 36: return x.count(a[0]);
            default: return x.digest();
        }
    }

    // Highest argument that is well, by call, for the arguments that are drawn.
    private static final int[][] MOST = {
        {1, 255}, {1}, {1}, {1}, {3, 1, 99}, {4, 31, 9}, {3, 4}, {3, 31}, {}, {},
        {40, 31}, {40, 2}, {3}, {39}, {3}, {3, 31}, {3, 99, 99, 1}, {60, 3, 1}, {99, 30}, {99, 30, 99},
        {5, 9, 60, 1}, {1, 3, 1}, {16, 3, 1, 3, 1}, {16, 9999, 16, 9999}, {9999, 9999}, {}, {6}, {}, {39, 999, 99}, {},
        {3, 2, 60}, {3}, {3, 2, 59, 99999}, {3, 2, 59}, {3, 59, 3, 59, 60}, {3, 3}, {8}, {}};
    private static final int[] ODD = {-1, -2, Integer.MIN_VALUE, Integer.MAX_VALUE};

    private static int draw(Random random, int most, int style) {
        int odds = random.nextInt(100);
        if (odds < 2) return ODD[random.nextInt(ODD.length)];
        if (odds < 3) return most == Integer.MAX_VALUE ? most : most + 1;
        if (odds < 6) return most;
        if (odds < 10) return 0;
        int span = style == 0 ? most : style == 1 ? Math.min(most, 12) : Math.min(most, 40);
        return random.nextInt(span + 1);
    }

    private static int[] drawAll(Random random, int call, int style) {
        int[] a = new int[5];
        for (int i = 0; i < MOST[call].length; i++) a[i] = draw(random, MOST[call][i], random.nextInt(4) == 0 ? 0 : style);
        if (call == 0) {
            int text = random.nextInt(2);
            a[0] = random.nextInt(50) == 0 ? a[0] : text;
            String signs = a[0] == 0 ? "01234567899;;;;" : ".lrsx..";
            a[1] = random.nextInt(60) == 0 ? a[1] : signs.charAt(random.nextInt(signs.length()));
        }
        if (call == 33 || call == 32) a[2] = random.nextInt(3) == 0 ? a[2] : Math.min(a[2], 6);
        return a;
    }

    /** Panes by chance are seldom well, so many runs begin with one that is. */
    private static String wellText(Random random, int text) {
        StringBuilder t = new StringBuilder();
        if (text == 1) {
            int n = random.nextInt(41);
            for (int i = 0; i < n; i++) t.append(".lrsx".charAt(random.nextInt(5)));
            return t.toString();
        }
        int rows = 1 + random.nextInt(4), width = 1 + random.nextInt(8), top = 1 + random.nextInt(10);
        int way = random.nextInt(4);
        for (int r = 0; r < rows; r++) {
            if (r > 0) t.append(';');
            char[] row = new char[width];
            for (int c = 0; c < width; c++) row[c] = (char) ('0' + random.nextInt(top));
            if (way < 2) Arrays.sort(row);
            String s = new String(row);
            t.append(way == 1 ? new StringBuilder(s).reverse() : s);
        }
        return t.toString();
    }

    private static boolean step(FrostHole x, FrostHoleModel model, int run, int call, int[] a) {
        long want = model.answer(call, a);
        long got = ask(x, call, a);
        if (want == got) return true;
        System.out.println("run " + run + ": call " + call + " " + Arrays.toString(a) + " of pane " + model.texts[0]
            + " road " + model.texts[1] + " answered " + got + ", the model " + want);
        return false;
    }

    private static int runOne(int run) {
        Random random = new Random(run);
        FrostHole x = new FrostHole();
        FrostHoleModel model = new FrostHoleModel();
        int wrong = 0, calls = 0;
        for (int text = 0; text < 2 && run % 3 != 0; text++) {
            for (char c : wellText(random, text).toCharArray()) {
                wrong += step(x, model, run, 0, new int[] {text, c}) ? 0 : 1;
                calls++;
            }
        }
        int style = run % 3;
        for (; calls < CALLS && wrong == 0; calls++) {
            int call = random.nextInt(38);
            // Texts that are told well are changed seldom in most runs.
            if (call <= 2 && run % 3 != 0 && random.nextInt(12) != 0) call = 7;
            if (call == 1 && random.nextInt(4) != 0) call = 0;
            if (call == 29) call = 5;
            if (call == 37 && random.nextInt(4) != 0) call = 30;
            int[] a = drawAll(random, call, style);
            wrong += step(x, model, run, call, a) ? 0 : 1;
        }
        return wrong;
    }

    /** Calls that hang on nothing but their arguments: all arguments that are well, and those just beyond. */
    private static int everyArgument(int call, int least, int from) {
        int wrong = 0;
        int[] most = MOST[call];
        int[] a = new int[5];
        Arrays.fill(a, 0, most.length, least - 1);
        a[0] = from - 1;
        FrostHole x = null;
        for (int calls = 0; a[0] <= most[0] + 1 && wrong < 5; calls++) {
            if (calls % CALLS == 0) x = new FrostHole();
            wrong += step(x, new FrostHoleModel(), -call, call, a) ? 0 : 1;
            int i = most.length - 1;
            for (a[i]++; i > 0 && a[i] > most[i] + 1; a[i]++) {
                a[i] = least - 1;
                i--;
            }
        }
        return wrong;
    }

    /** Two or three cells of every thickness, melting and scraped, second by second. */
    private static int everyWarmth() {
        int wrong = 0;
        for (int thick = 0; thick < 100 && wrong < 5; thick++) {
            for (int each : new int[] {1, 2, 3, 5, 7, 12, 31, 59, 60}) {
                String pane = thick / 10 + ";" + thick % 10 + (thick % 3 == 0 ? ";" + thick / 20 : "");
                FrostHole x = new FrostHole();
                FrostHoleModel model = new FrostHoleModel();
                for (char c : pane.toCharArray()) step(x, model, thick, 0, new int[] {0, c});
                step(x, model, thick, 4, new int[] {3, 0, each});
                for (int m = 1; m <= 60; m++) {
                    wrong += step(x, model, thick, 17, new int[] {m, 3, 0}) ? 0 : 1;
                    wrong += step(x, model, thick, 17, new int[] {m, 3, 1}) ? 0 : 1;
                }
            }
        }
        return wrong;
    }

    public static void main(String[] args) {
        int wrong = everyArgument(18, 0, -1) + everyArgument(20, 0, 1) + everyArgument(21, 0, 0) + everyWarmth();
        for (int run = 0; run < RUNS && wrong < 20; run++) wrong += runOne(run);
        System.out.println(wrong == 0 ? "the model answers alike" : wrong + " runs answered unlike the model");
        if (wrong != 0) System.exit(1);
    }
}
