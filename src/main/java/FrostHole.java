import java.util.Arrays;

/**
 * A hole scraped in the frost: what stands on a pane, what is seen through it,
 * and how the morning is best spent. README.md tells how it is used.
 */
public final class FrostHole {
    public static final int NONE = -1, BAD = -2, NOT = -3, FULL = -4;

    private static final int ROWS = 4;
    private static final int COLUMNS = 8;
    private static final int CELLS = ROWS * COLUMNS;
    private static final int THICKEST = 9;
    private static final int PANE_BYTES = 35;
    private static final int ROAD_BYTES = 40;
    private static final int PANE_TEXT = 0;
    private static final int ROAD_TEXT = 1;

    private static final int TOOLS = 4;
    private static final int CARD = 0;
    private static final int MOST_SECONDS = 60;
    private static final int MOST_HOLDS = 99;
    private static final int STROKES = 40;
    private static final int KINDS = 5;
    private static final int MOST_LOOKS = 9;
    private static final int MOST_COST = 99;

    private static final int CRACKS_ABOVE = 40;
    private static final int HOTTEST = 99;
    private static final int COLDEST = 30;
    private static final int MOST_CUPS = 99;
    private static final int LAST_MINUTE = 120;
    private static final int WHITE_ABOVE = 10;
    private static final int SIXTEENTHS = 16;
    private static final int HALVINGS = 4;
    private static final int MOST_TIME = 9999;
    private static final int MOST_WAIT = 999;
    private static final int CARS = 7;

    private static final int SHEETS = 4;
    private static final int FORMS = 3;
    private static final int ITEMS = 60;
    private static final int LEAST_INT = 1 << 31;
    private static final long LEAST_LONG = 1L << 63;

    private static final int FINDING_NULL = 1;
    private static final int FINDING_INDEX = 2;
    private static final int FINDING_CAST = 3;
    private static final int FINDING_STORE = 4;
    private static final int FINDING_SIZE = 5;

    private final Pane pane = new Pane();
    private final Road road = new Road();
    private final Kit kit = new Kit();
    private final Views views = new Views();
    private final Strokes strokes = new Strokes();
    private final Morning morning = new Morning();
    private final Street street = new Street();
    private final Sheet[] sheets = new Sheet[SHEETS];
    private boolean stale = true;
    private int finding = 0;

    public FrostHole() {
        for (int s = 0; s < SHEETS; s++) {
            sheets[s] = new Sheet();
        }
    }

    // ---- pane, road, tools

    public int type(int text, int b) {
        if (!isText(text) || !within(b, 0, 255)) {
            return BAD;
        }
        Script script = scriptOf(text);
        if (script.isFull()) {
            return FULL;
        }
        script.append(b);
        reread(text);
        return script.size;
    }

    public int wipe(int text) {
        if (!isText(text)) {
            return BAD;
        }
        Script script = scriptOf(text);
        int had = script.size;
        script.size = 0;
        reread(text);
        return had;
    }

    public int undo(int text) {
        if (!isText(text)) {
            return BAD;
        }
        Script script = scriptOf(text);
        if (script.size <= 0) {
            return NOT;
        }
        script.size--;
        reread(text);
        return script.size;
    }

    public int fault(int text) {
        if (!isText(text)) {
            return BAD;
        }
        return text == PANE_TEXT ? pane.fault : road.fault;
    }

    public int tool(int tool, int what, int v) {
        if (!isTool(tool) || !isPair(what)) {
            return BAD;
        }
        if (what == 0 ? !within(v, 1, MOST_SECONDS) : !within(v, 0, MOST_HOLDS)) {
            return BAD;
        }
        int[] row = what == 0 ? kit.seconds : kit.holds;
        int was = row[tool];
        row[tool] = v;
        stale = true;
        return was;
    }

    public int looks(int kind, int cell, int v) {
        if (!isKind(kind) || !isCell(cell) || !within(v, 0, MOST_LOOKS)) {
            return BAD;
        }
        int was = views.at(kind, cell);
        views.put(kind, cell, v);
        stale = true;
        return was;
    }

    public int read(int s, int kind) {
        if (!isSheet(s) || !isKind(kind)) {
            return BAD;
        }
        Sheet sheet = sheets[s];
        if (sheet.isLost()) {
            return found(FINDING_NULL);
        }
        int many = Math.min(sheet.size, CELLS);
        int cell = 0;
        while (cell < many && within(sheet.items[cell], 0, MOST_LOOKS)) {
            views.put(kind, cell, sheet.items[cell]);
            cell++;
        }
        stale = true;
        return cell;
    }

    public int stroke(int tool, int cell) {
        if (!isTool(tool) || !isCell(cell)) {
            return BAD;
        }
        if (strokes.size >= STROKES) {
            return FULL;
        }
        strokes.append(tool, cell);
        stale = true;
        return strokes.size;
    }

    public int back() {
        if (strokes.size <= 0) {
            return NOT;
        }
        strokes.size--;
        stale = true;
        return strokes.size;
    }

    // ---- morning

    public int judged() {
        return settled().firstNotDone(strokes.size);
    }

    public int thick(int k, int cell) {
        if (!within(k, 0, strokes.size) || !isCell(cell) || pane.told[cell] == NONE) {
            return BAD;
        }
        return settled().clearedBehind(k, cell, strokes) ? 0 : pane.told[cell];
    }

    public int state(int k, int what) {
        if (!within(k, 0, strokes.size) || !within(what, 0, 2)) {
            return BAD;
        }
        if (what == 0) {
            return settled().secondsBehind(k, strokes, kit);
        }
        if (what == 1) {
            return settled().riskBehind(k, strokes, pane);
        }
        return pane.clear + settled().doneBehind(k);
    }

    public int left(int tool) {
        if (!isTool(tool)) {
            return BAD;
        }
        return settled().still[tool];
    }

    public int risk(int stretch) {
        if (!isStretch(stretch)) {
            return BAD;
        }
        return settled().riskOfKind(road.kindAt(stretch), views);
    }

    // ---- scraping

    public int all(int tool) {
        if (!isTool(tool)) {
            return BAD;
        }
        return settled().frost * kit.seconds[tool];
    }

    public int first(int tool, int i) {
        if (!isTool(tool) || !within(i, NONE, CELLS - 1)) {
            return BAD;
        }
        Morning now = settled();
        if (i == NONE) {
            return now.ranked;
        }
        return i < now.ranked ? now.rank[i] : NONE;
    }

    public int stop(int tool, int c, int v, int what) {
        if (!isTool(tool) || !within(c, 0, MOST_COST) || !within(v, 0, MOST_COST) || !isPair(what)) {
            return BAD;
        }
        Morning now = settled();
        int secondCost = c * kit.seconds[tool];
        int many = now.cheapestStop(secondCost, v);
        if (what == 0) {
            return many;
        }
        return v * now.riskBehind(strokes.size, strokes, pane) + now.change(many, secondCost, v);
    }

    // ---- warmth, water, breath

    public int warm(int m, int tool, int what) {
        if (!within(m, 1, MOST_SECONDS) || !isTool(tool) || !isPair(what)) {
            return BAD;
        }
        if (what == 0) {
            return settled().thickest() * m;
        }
        return settled().clearWithBoth(m, kit.seconds[tool]);
    }

    public int crack(int w, int d) {
        if (!within(w, NONE, HOTTEST) || !within(d, 0, COLDEST)) {
            return BAD;
        }
        if (w == NONE) {
            return CRACKS_ABOVE - d;
        }
        return cracks(w, d) ? 1 : 0;
    }

    public int melts(int w, int d, int k) {
        if (!within(w, 0, HOTTEST) || !within(d, 0, COLDEST) || !within(k, 0, MOST_CUPS)) {
            return BAD;
        }
        if (cracks(w, d)) {
            return NOT;
        }
        return settled().clearedByCups(w / 10, k);
    }

    public int again(int people, int b, int t, int what) {
        if (!within(people, 1, 5) || !within(b, 0, 9) || !within(t, 0, 60) || !isPair(what)) {
            return BAD;
        }
        int damp = 0;
        int firstWhite = NONE;
        int lastWhite = NONE;
        for (int minute = 0; minute <= LAST_MINUTE; minute++) {
            damp += people;
            if (minute >= t) {
                damp = Math.max(0, damp - b);
            }
            if (damp > WHITE_ABOVE) {
                firstWhite = firstWhite == NONE ? minute : firstWhite;
                lastWhite = minute;
            }
        }
        if (what == 0) {
            return firstWhite;
        }
        return lastWhite == LAST_MINUTE ? NONE : lastWhite + 1;
    }

    // ---- nights

    public int night(int sky, int wind, int wall) {
        if (!isPair(sky) || !within(wind, 0, 3) || !isPair(wall)) {
            return BAD;
        }
        return frostOf(sky, wind, wall);
    }

    public long tonight(int p, int wind, int wall, int tool, int what) {
        if (!within(p, 0, SIXTEENTHS) || !within(wind, 0, 3) || !isPair(wall)) {
            return LEAST_LONG - BAD;
        }
        if (!isTool(tool) || !isPair(what)) {
            return LEAST_LONG - BAD;
        }
        int above = sixteenthsTonight(p, wind, wall, tool);
        int below = SIXTEENTHS;
        // Below is a power of two, so halving alone brings the lowest terms.
        for (int i = 0; i < HALVINGS; i++) {
            if (above % 2 == 0) {
                above /= 2;
                below /= 2;
            }
        }
        return what == 0 ? above : below;
    }

    public int cover(int p, int c, int s, int e) {
        if (!within(p, 0, SIXTEENTHS) || !within(c, 0, MOST_TIME)) {
            return BAD;
        }
        if (!within(s, 0, SIXTEENTHS) || !within(e, 0, MOST_TIME)) {
            return BAD;
        }
        int covered = SIXTEENTHS * c + s * e;
        return covered < sixteenthsTonight(p, 0, 0, CARD) ? 1 : 0;
    }

    // ---- street, bend

    public int car(int seconds, int leave) {
        if (!within(seconds, 1, MOST_TIME) || !within(leave, 0, MOST_TIME)) {
            return BAD;
        }
        if (street.size >= CARS) {
            return FULL;
        }
        street.append(seconds, leave);
        return street.size;
    }

    public int gone() {
        if (street.size <= 0) {
            return NOT;
        }
        street.removeLast();
        return street.size;
    }

    public int lent(int i) {
        if (!within(i, NONE, CARS - 1)) {
            return BAD;
        }
        if (i == NONE) {
            return street.leastLate();
        }
        return i < street.size ? street.order[i] : NONE;
    }

    public int faced() {
        if (pane.stepsUp(1)) {
            return 0;
        }
        return pane.stepsUp(-1) ? 1 : NONE;
    }

    public int bend(int stretch, int w, int a) {
        if (!isStretch(stretch) || !within(w, 0, MOST_WAIT) || !within(a, 0, MOST_COST)) {
            return BAD;
        }
        return w < a * risk(stretch) ? 1 : 0;
    }

    // ---- sheets

    public int sheet(int s, int form, int n) {
        if (!isSheet(s) || !isForm(form) || n > ITEMS) {
            return BAD;
        }
        if (n < 0) {
            return found(FINDING_SIZE);
        }
        sheets[s].renew(form, n);
        return n;
    }

    public int lose(int s) {
        if (!isSheet(s)) {
            return BAD;
        }
        Sheet sheet = sheets[s];
        if (sheet.isLost()) {
            return found(FINDING_NULL);
        }
        sheet.form = NONE;
        return sheet.size;
    }

    public int lay(int s, int form, int i, int v) {
        if (!isSheet(s) || !isForm(form)) {
            return BAD;
        }
        int hindrance = sheets[s].hindrance(form, i);
        if (hindrance != 0) {
            return found(hindrance);
        }
        sheets[s].put(i, v);
        return 1;
    }

    public int get(int s, int form, int i) {
        if (!isSheet(s) || !isForm(form)) {
            return LEAST_INT;
        }
        int hindrance = sheets[s].hindrance(form, i);
        if (hindrance != 0) {
            finding = hindrance;
            return LEAST_INT;
        }
        return sheets[s].items[i];
    }

    public int copy(int s, int i, int t, int j, int n) {
        if (!isSheet(s) || !isSheet(t)) {
            return BAD;
        }
        Sheet from = sheets[s];
        Sheet to = sheets[t];
        if (from.isLost() || to.isLost()) {
            return found(FINDING_NULL);
        }
        if (from.form != to.form) {
            return found(FINDING_STORE);
        }
        if (!from.hasRun(i, n) || !to.hasRun(j, n)) {
            return found(FINDING_INDEX);
        }
        System.arraycopy(from.items, i, to.items, j, n);
        return 1;
    }

    public int write(int tool, int s) {
        if (!isTool(tool) || !isSheet(s)) {
            return BAD;
        }
        Sheet sheet = sheets[s];
        if (sheet.isLost()) {
            return found(FINDING_NULL);
        }
        Morning now = settled();
        int many = Math.min(sheet.size, now.ranked);
        for (int i = 0; i < many; i++) {
            sheet.put(i, now.rank[i]);
        }
        return many;
    }

    public int count(int what) {
        switch (what) {
            case 0: return pane.cells;
            case 1: return road.stretches;
            case 2: return pane.script.size;
            case 3: return road.script.size;
            case 4: return strokes.size;
            case 5: return settled().doneBehind(strokes.size);
            case 6: return pane.frost;
            case 7: return street.size;
            case 8: return finding;
            default: return BAD;
        }
    }

    public long digest() {
        long h = 17;
        for (int what = 0; what <= 7; what++) {
            h = mixed(h, count(what));
        }
        h = mixed(h, fault(PANE_TEXT));
        h = mixed(h, fault(ROAD_TEXT));
        h = mixed(h, judged());
        for (int what = 0; what <= 2; what++) {
            h = mixed(h, state(strokes.size, what));
        }
        for (int tool = 0; tool < TOOLS; tool++) {
            h = mixedWithTool(h, tool);
        }
        for (int stretch = 0; stretch < road.stretches; stretch++) {
            h = mixed(h, risk(stretch));
            h = mixed(h, bend(stretch, 30, 2));
        }
        h = mixed(h, melts(30, 6, 5));
        h = mixed(h, again(3, 4, 5, 0));
        h = mixed(h, again(3, 4, 5, 1));
        h = mixed(h, cover(8, 60, 4, 90));
        for (int i = NONE; i <= 1; i++) {
            h = mixed(h, lent(i));
        }
        return mixed(h, faced());
    }

    private long mixedWithTool(long before, int tool) {
        long h = mixed(before, left(tool));
        h = mixed(h, all(tool));
        for (int i = NONE; i <= 1; i++) {
            h = mixed(h, first(tool, i));
        }
        h = mixed(h, stop(tool, 1, 3, 0));
        h = mixed(h, stop(tool, 1, 3, 1));
        h = mixed(h, warm(20, tool, 0));
        h = mixed(h, warm(20, tool, 1));
        h = mixed(h, tonight(6, 1, 0, tool, 0));
        return mixed(h, tonight(6, 1, 0, tool, 1));
    }

    private static long mixed(long h, long value) {
        return 31 * h + value;
    }

    private static boolean within(int value, int least, int most) {
        return value >= least && value <= most;
    }

    private static boolean isText(int text) {
        return within(text, PANE_TEXT, ROAD_TEXT);
    }

    private static boolean isTool(int tool) {
        return within(tool, 0, TOOLS - 1);
    }

    private static boolean isCell(int cell) {
        return within(cell, 0, CELLS - 1);
    }

    private static boolean isKind(int kind) {
        return within(kind, 0, KINDS - 1);
    }

    private static boolean isSheet(int s) {
        return within(s, 0, SHEETS - 1);
    }

    private static boolean isForm(int form) {
        return within(form, 0, FORMS - 1);
    }

    /** Many acts are told which of two things is meant by 0 or 1. */
    private static boolean isPair(int what) {
        return within(what, 0, 1);
    }

    private boolean isStretch(int stretch) {
        return within(stretch, 0, road.stretches - 1);
    }

    private Script scriptOf(int text) {
        return text == PANE_TEXT ? pane.script : road.script;
    }

    private void reread(int text) {
        if (text == PANE_TEXT) {
            pane.reread();
        } else {
            road.reread();
        }
        stale = true;
    }

    /** The morning is reached through here alone, so that no answer comes from before a change. */
    private Morning settled() {
        if (stale) {
            morning.scrape(pane, kit, strokes);
            morning.weigh(road, views);
            morning.order();
            stale = false;
        }
        return morning;
    }

    private int found(int number) {
        finding = number;
        return -10 - number;
    }

    private static boolean cracks(int w, int d) {
        return w + d > CRACKS_ABOVE;
    }

    private static int frostOf(int sky, int wind, int wall) {
        int frost = Math.max(0, 6 - 4 * sky - wind);
        return wall == 1 ? frost - frost / 2 : frost;
    }

    /** Sixteen times the mean, so that means are compared without a fraction. */
    private int sixteenthsTonight(int p, int wind, int wall, int tool) {
        int frost = p * frostOf(0, wind, wall) + (SIXTEENTHS - p) * frostOf(1, wind, wall);
        return pane.cells * kit.seconds[tool] * frost;
    }

    /** A text as it is typed, byte by byte. */
    private static final class Script {
        final int[] bytes;
        int size = 0;

        Script(int limit) {
            bytes = new int[limit];
        }

        boolean isFull() {
            return size >= bytes.length;
        }

        void append(int b) {
            if (size < bytes.length) {
                bytes[size] = b;
                size++;
            }
        }
    }

    /** The pane as its text tells it; without cells while the text has a fault. */
    private static final class Pane {
        final Script script = new Script(PANE_BYTES);
        final int[] told = new int[CELLS];
        int fault = NONE;
        int cells = 0;
        int frost = 0;
        int clear = 0;

        Pane() {
            Arrays.fill(told, NONE);
        }

        void reread() {
            empty();
            fault = readRows();
            if (fault != NONE) {
                empty();
            }
        }

        private void empty() {
            Arrays.fill(told, NONE);
            cells = 0;
            frost = 0;
            clear = 0;
        }

        private int readRows() {
            int row = 0;
            int column = 0;
            // Till the first row has ended only the widest width binds it.
            int width = COLUMNS;
            for (int i = 0; i < script.size; i++) {
                int b = script.bytes[i];
                if (b == ';') {
                    if (!mayEnd(row, column, width)) {
                        return i;
                    }
                    width = row == 0 ? column : width;
                    row++;
                    column = 0;
                } else {
                    if (!within(b, '0', '9') || row >= ROWS || column >= width) {
                        return i;
                    }
                    addCell(COLUMNS * row + column, b - '0');
                    column++;
                }
            }
            return script.size == 0 || mayEnd(row, column, width) ? NONE : script.size;
        }

        private static boolean mayEnd(int row, int column, int width) {
            if (row == 0) {
                return column > 0;
            }
            return row < ROWS && column == width;
        }

        private void addCell(int cell, int thickness) {
            if (!isCell(cell)) {
                return;
            }
            told[cell] = thickness;
            cells++;
            frost += thickness;
            clear += thickness == 0 ? 1 : 0;
        }

        /** Whether no row steps against the direction (1 up, -1 down) from left to right, and some step goes with it. */
        boolean stepsUp(int direction) {
            boolean some = false;
            for (int cell = 1; cell < CELLS; cell++) {
                if (cell % COLUMNS != 0 && told[cell] != NONE) {
                    int step = direction * (told[cell] - told[cell - 1]);
                    if (step < 0) {
                        return false;
                    }
                    some = some || step > 0;
                }
            }
            return some;
        }
    }

    /** The road as its text tells it; without stretches while the text has a fault. */
    private static final class Road {
        final Script script = new Script(ROAD_BYTES);
        final int[] many = new int[KINDS];
        int fault = NONE;
        int stretches = 0;

        void reread() {
            Arrays.fill(many, 0);
            fault = NONE;
            for (int i = 0; i < script.size && fault == NONE; i++) {
                int kind = kindOf(script.bytes[i]);
                if (isKind(kind)) {
                    many[kind]++;
                } else {
                    fault = i;
                }
            }
            if (fault != NONE) {
                Arrays.fill(many, 0);
            }
            stretches = fault == NONE ? script.size : 0;
        }

        int kindAt(int stretch) {
            return within(stretch, 0, stretches - 1) ? kindOf(script.bytes[stretch]) : NONE;
        }

        private static int kindOf(int b) {
            switch (b) {
                case '.': return 0;
                case 'l': return 1;
                case 'r': return 2;
                case 's': return 3;
                case 'x': return 4;
                default: return NONE;
            }
        }
    }

    /** The tools: card, glove, scraper, hand. */
    private static final class Kit {
        final int[] seconds = {5, 8, 2, 12};
        final int[] holds = {MOST_HOLDS, MOST_HOLDS, MOST_HOLDS, MOST_HOLDS};
    }

    /** What is seen of each kind of stretch through each cell. */
    private static final class Views {
        final int[] row = new int[KINDS * CELLS];

        Views() {
            for (int cell = 0; cell < CELLS; cell++) {
                row[cell] = 1;
            }
        }

        int at(int kind, int cell) {
            return isKind(kind) && isCell(cell) ? row[kind * CELLS + cell] : 0;
        }

        void put(int kind, int cell, int v) {
            if (isKind(kind) && isCell(cell)) {
                row[kind * CELLS + cell] = v;
            }
        }
    }

    /** The strokes in the order in which they were told. */
    private static final class Strokes {
        final int[] tools = new int[STROKES];
        final int[] cells = new int[STROKES];
        int size = 0;

        void append(int tool, int cell) {
            if (size < STROKES) {
                tools[size] = tool;
                cells[size] = cell;
                size++;
            }
        }
    }

    /**
     * What the strokes come to. A stroke that is done clears its cell for good, so how
     * much each took tells the state behind any number of them.
     */
    private static final class Morning {
        final int[] took = new int[STROKES];
        final int[] thickness = new int[CELLS];
        final int[] still = new int[TOOLS];
        final int[] share = new int[CELLS];
        final int[] rank = new int[CELLS];
        final int[] cellsThick = new int[THICKEST + 1];
        int ranked = 0;
        int frost = 0;

        void scrape(Pane pane, Kit kit, Strokes strokes) {
            System.arraycopy(pane.told, 0, thickness, 0, CELLS);
            System.arraycopy(kit.holds, 0, still, 0, TOOLS);
            for (int i = 0; i < strokes.size && i < STROKES; i++) {
                int tool = strokes.tools[i];
                int cell = strokes.cells[i];
                took[i] = 0;
                if (isTool(tool) && isCell(cell) && thickness[cell] > 0 && thickness[cell] <= still[tool]) {
                    took[i] = thickness[cell];
                    still[tool] -= thickness[cell];
                    thickness[cell] = 0;
                }
            }
        }

        void weigh(Road road, Views views) {
            Arrays.fill(cellsThick, 0);
            frost = 0;
            for (int cell = 0; cell < CELLS; cell++) {
                share[cell] = 0;
                for (int kind = 0; kind < KINDS; kind++) {
                    share[cell] += road.many[kind] * views.row[kind * CELLS + cell];
                }
                if (within(thickness[cell], 0, THICKEST)) {
                    cellsThick[thickness[cell]]++;
                    frost += thickness[cell];
                }
            }
        }

        /** All cells take a tool's same seconds by their thickness, so the order is one for all tools. */
        void order() {
            ranked = 0;
            for (int cell = 0; cell < CELLS; cell++) {
                if (thickness[cell] > 0 && share[cell] > 0) {
                    int place = ranked;
                    while (place > 0 && isQuicker(cell, rank[place - 1])) {
                        rank[place] = rank[place - 1];
                        place--;
                    }
                    rank[place] = cell;
                    ranked++;
                }
            }
        }

        private boolean isQuicker(int cell, int other) {
            return share[cell] * thickness[other] > share[other] * thickness[cell];
        }

        int firstNotDone(int k) {
            for (int i = 0; i < k && i < STROKES; i++) {
                if (took[i] == 0) {
                    return i;
                }
            }
            return NONE;
        }

        int doneBehind(int k) {
            int done = 0;
            for (int i = 0; i < k && i < STROKES; i++) {
                done += took[i] > 0 ? 1 : 0;
            }
            return done;
        }

        boolean clearedBehind(int k, int cell, Strokes strokes) {
            for (int i = 0; i < k && i < STROKES; i++) {
                if (took[i] > 0 && strokes.cells[i] == cell) {
                    return true;
                }
            }
            return false;
        }

        int secondsBehind(int k, Strokes strokes, Kit kit) {
            int seconds = 0;
            for (int i = 0; i < k && i < STROKES; i++) {
                int tool = strokes.tools[i];
                seconds += isTool(tool) ? took[i] * kit.seconds[tool] : 0;
            }
            return seconds;
        }

        int riskBehind(int k, Strokes strokes, Pane pane) {
            int risk = 0;
            for (int cell = 0; cell < CELLS; cell++) {
                risk += pane.told[cell] > 0 ? share[cell] : 0;
            }
            for (int i = 0; i < k && i < STROKES; i++) {
                int cell = strokes.cells[i];
                risk -= took[i] > 0 && isCell(cell) ? share[cell] : 0;
            }
            return risk;
        }

        int riskOfKind(int kind, Views views) {
            int risk = 0;
            for (int cell = 0; cell < CELLS && isKind(kind); cell++) {
                risk += thickness[cell] > 0 ? views.row[kind * CELLS + cell] : 0;
            }
            return risk;
        }

        int cheapestStop(int secondCost, int riskCost) {
            int best = 0;
            int leastChange = 0;
            int change = 0;
            for (int i = 0; i < ranked; i++) {
                change += changeAt(rank[i], secondCost, riskCost);
                if (change < leastChange) {
                    leastChange = change;
                    best = i + 1;
                }
            }
            return best;
        }

        /** How much more than with no cell is paid when so many cells of the order are scraped. */
        int change(int many, int secondCost, int riskCost) {
            int change = 0;
            for (int i = 0; i < many && i < ranked; i++) {
                change += changeAt(rank[i], secondCost, riskCost);
            }
            return change;
        }

        private int changeAt(int cell, int secondCost, int riskCost) {
            return secondCost * thickness[cell] - riskCost * share[cell];
        }

        int thickest() {
            for (int level = THICKEST; level > 0; level--) {
                if (cellsThick[level] > 0) {
                    return level;
                }
            }
            return 0;
        }

        /**
         * Warmth thins all cells alike, so the thickest of a moment come in the order of how
         * thick they were at first, and like ones take alike long whichever is first.
         */
        int clearWithBoth(int m, int seconds) {
            if (m <= 0) {
                return 0;
            }
            int second = 0;
            for (int level = THICKEST; level > 0; level--) {
                int melted = level * m;
                for (int i = 0; i < cellsThick[level] && second < melted; i++) {
                    int end = second + (level - second / m) * seconds;
                    if (melted <= end) {
                        return melted;
                    }
                    second = end;
                }
            }
            return second;
        }

        /** A cell that a cup has thinned stays the thinnest, so each gets all it needs before the next. */
        int clearedByCups(int strength, int cups) {
            if (strength <= 0) {
                return 0;
            }
            int cleared = 0;
            int rest = cups;
            for (int level = 1; level <= THICKEST; level++) {
                int need = (level + strength - 1) / strength;
                int many = need > 0 ? Math.min(cellsThick[level], rest / need) : 0;
                cleared += many;
                rest -= many * need;
            }
            return cleared;
        }
    }

    /** The cars of the street, and the order in which the one scraper goes round. */
    private static final class Street {
        final int[] seconds = new int[CARS];
        final int[] leave = new int[CARS];
        final int[] order = new int[CARS];
        // By the set of cars that are done: how late, at least, all others are together.
        private final int[] least = new int[1 << CARS];
        int size = 0;

        void append(int carSeconds, int carLeave) {
            if (size < CARS) {
                seconds[size] = carSeconds;
                leave[size] = carLeave;
                size++;
                plan();
            }
        }

        void removeLast() {
            if (size > 0) {
                size--;
                plan();
            }
        }

        int leastLate() {
            return least[0];
        }

        private void plan() {
            int everyCar = (1 << size) - 1;
            least[everyCar] = 0;
            for (int done = everyCar - 1; done >= 0; done--) {
                int spent = spentOn(done);
                least[done] = lateWith(done, spent, bestNext(done, spent));
            }
            int done = 0;
            for (int i = 0; i < size; i++) {
                order[i] = bestNext(done, spentOn(done));
                done |= 1 << order[i];
            }
        }

        /** The least car with which the others can still be late least: so the row is the least too. */
        private int bestNext(int done, int spent) {
            int best = 0;
            int bestLate = NONE;
            for (int car = 0; car < size; car++) {
                if ((done >> car & 1) == 0) {
                    int late = lateWith(done, spent, car);
                    if (bestLate == NONE || late < bestLate) {
                        bestLate = late;
                        best = car;
                    }
                }
            }
            return best;
        }

        private int lateWith(int done, int spent, int car) {
            return Math.max(0, spent + seconds[car] - leave[car]) + least[done | 1 << car];
        }

        private int spentOn(int done) {
            int spent = 0;
            for (int car = 0; car < size; car++) {
                spent += (done >> car & 1) == 1 ? seconds[car] : 0;
            }
            return spent;
        }
    }

    /** One sheet; its row is kept and used again, whatever its form. */
    private static final class Sheet {
        final int[] items = new int[ITEMS];
        int form = NONE;
        int size = 0;

        boolean isLost() {
            return form == NONE;
        }

        void renew(int newForm, int n) {
            Arrays.fill(items, 0);
            form = newForm;
            size = n;
        }

        /** The finding that keeps an item from being touched as of a form, or 0. */
        int hindrance(int asForm, int i) {
            if (isLost()) {
                return FINDING_NULL;
            }
            if (form != asForm) {
                return FINDING_CAST;
            }
            return within(i, 0, size - 1) ? 0 : FINDING_INDEX;
        }

        void put(int i, int v) {
            if (!within(i, 0, ITEMS - 1)) {
                return;
            }
            items[i] = form == 0 ? (byte) v : form == 1 ? (short) v : v;
        }

        boolean hasRun(int from, int n) {
            return from >= 0 && within(n, 0, size) && from <= size - n;
        }
    }
}
