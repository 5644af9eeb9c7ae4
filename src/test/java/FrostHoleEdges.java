import java.math.BigInteger;
import java.util.ArrayList;
import java.util.Arrays;
import java.util.Collections;
import java.util.HashSet;
import java.util.List;
import java.util.Set;

/**
 * Each sentence of the document that names a boundary case has a test of its own here: says() bears the
 * promise and the words, what follows it the last number that is still as told and the first that is
 * not. Refusals, their order, and that they change nothing are the matter of FrostHoleRefusals.
 */
public final class FrostHoleEdges {
    private static final int NONE = -1, BAD = -2, NOT = -3, FULL = -4;
    private static final int LEAST = Integer.MIN_VALUE;
    private static final int CARD = 0, GLOVE = 1, SCRAPER = 2, HAND = 3;
    private static int wrong = 0;
    private static final Set<String> SENTENCES = new HashSet<>();
    private static String sentence = "";

    private static void says(int promise, String words) {
        sentence = "promise " + promise + ", '" + words + "'";
        SENTENCES.add(sentence);
    }

    private static void due(String what, long want, long got) {
        if (got == want) return;
        wrong++;
        if (wrong <= 40) System.out.println(sentence + ": " + what + " answered " + got + ", due is " + want);
    }

    private static void row(String what, FrostHole x, int tool, int... want) {
        due(what + ": how many", want.length, x.first(tool, NONE));
        for (int i = 0; i < want.length; i++) due(what + ": " + i, want[i], x.first(tool, i));
        if (want.length < 32) due(what + ": behind the last", NONE, x.first(tool, want.length));
    }

    private static void tell(FrostHole x, int text, String bytes) {
        for (char b : bytes.toCharArray()) x.type(text, b);
    }

    private static FrostHole with(String pane, String road) {
        FrostHole x = new FrostHole();
        tell(x, 0, pane);
        tell(x, 1, road);
        return x;
    }

    private static int faultOf(int text, String bytes) {
        FrostHole x = new FrostHole();
        tell(x, text, bytes);
        return x.fault(text);
    }

    private static String pane(int rows, int width, char figure) {
        String row = String.valueOf(figure).repeat(width);
        return String.join(";", Collections.nCopies(rows, row));
    }

    // ---- promises 1 to 5: the texts

    private static void newObject() {
        says(1, "An empty PANE");
        FrostHole x = new FrostHole();
        due("cells", 0, x.count(0));
        due("bytes", 0, x.count(2));
        due("thick", 0, x.count(6));
        due("fault", NONE, x.fault(0));
        due("clear cells", 0, x.state(0, 2));
        for (int cell = 0; cell < 32; cell++) due("cell " + cell, BAD, x.thick(0, cell));
        says(1, "all SHEETS are LOST");
        for (int s = 0; s < 4; s++) due("sheet " + s, -11, new FrostHole().lose(s));
        says(1, "a new object has no road, no stroke, no car, and there was no FINDING");
        due("stretches", 0, x.count(1));
        due("road bytes", 0, x.count(3));
        due("strokes", 0, x.count(4));
        due("done", 0, x.count(5));
        due("cars", 0, x.count(7));
        due("finding", 0, x.count(8));
        says(1, "objects do not share what they hold");
        FrostHole y = with("9", "x");
        y.sheet(0, 0, 1);
        y.tool(0, 0, 60);
        y.looks(0, 0, 9);
        y.car(1, 0);
        due("cells", 0, x.count(0));
        due("sheet", -11, x.lose(0));
        due("tool", 5, x.tool(0, 0, 5));
        due("looks", 1, x.looks(0, 0, 1));
        due("cars", 0, x.count(7));
    }

    private static void typing() {
        says(2, "A byte (0 to 255)");
        for (int text = 0; text < 2; text++) {
            FrostHole x = new FrostHole();
            due("-1", BAD, x.type(text, -1));
            due("256", BAD, x.type(text, 256));
            due("none came", 0, x.count(2 + text));
            due("0", 1, x.type(text, 0));
            due("255", 2, x.type(text, 255));
            due("-1", BAD, x.type(text, -1));
            due("two came", 2, x.count(2 + text));
        }
        int[] most = {35, 40};
        says(2, "up to 35, 40 bytes");
        for (int text = 0; text < 2; text++) {
            FrostHole x = new FrostHole();
            for (int n = 1; n <= most[text]; n++) due("byte " + n, n, x.type(text, '.'));
            due("one too many", FULL, x.type(text, '.'));
            due("still", most[text], x.count(2 + text));
            due("the other text is not full", 1, x.type(1 - text, '.'));
            due("undone", most[text] - 1, x.undo(text));
            due("there is room again", most[text], x.type(text, '.'));
            due("full again", FULL, x.type(text, '.'));
            says(3, "A text is empty: how many bytes it had (a full one)");
            due("wipe", most[text], x.wipe(text));
            due("wiped", 0, x.count(2 + text));
            due("the other stays", 1, x.count(3 - text));
            due("anew", 1, x.type(text, '.'));
        }
        says(3, "how many bytes it had (an empty one)");
        for (int text = 0; text < 2; text++) {
            due("0", 0, new FrostHole().wipe(text));
            FrostHole x = new FrostHole();
            x.type(text, '1');
            due("1", 1, x.wipe(text));
            due("0 again", 0, x.wipe(text));
        }
        says(3, "how many bytes it had (one with a FAULT)");
        FrostHole y = with("1;;2", "?.");
        due("pane", 4, y.wipe(0));
        due("road", 2, y.wipe(1));
        due("pane is well", NONE, y.fault(0));
        due("road is well", NONE, y.fault(1));
    }

    private static void undoing() {
        says(4, "The last byte of a text is undone: how many are left. NOT: it is empty");
        int[] most = {35, 40};
        for (int text = 0; text < 2; text++) {
            FrostHole x = new FrostHole();
            due("empty from the first", NOT, x.undo(text));
            for (int n = 1; n <= most[text]; n++) x.type(text, '7');
            for (int n = most[text] - 1; n >= 0; n--) due("left", n, x.undo(text));
            due("empty", NOT, x.undo(text));
            due("empty twice", NOT, x.undo(text));
            due("a byte", 1, x.type(text, 0));
            due("none", 0, x.undo(text));
            x.type(text, 1);
            x.wipe(text);
            due("empty by wiping", NOT, x.undo(text));
        }
        says(4, "The last byte alone is undone");
        FrostHole x = with("12;34", "lr");
        due("bytes", 4, x.undo(0));
        due("fault now", 4, x.fault(0));
        due("bytes", 3, x.undo(0));
        due("bytes", 2, x.undo(0));
        due("first cell", 1, x.thick(0, 0));
        due("second cell", 2, x.thick(0, 1));
        due("road stays", 2, x.count(3));
    }

    private static void paneShape() {
        says(5, "THE PANE is up to 4 rows with ; between them, all as wide as the first (1 to 8)");
        for (int width = 1; width <= 8; width++) {
            for (int rows = 1; rows <= 4; rows++) {
                FrostHole x = with(pane(rows, width, '3'), "");
                String size = rows + " rows of " + width;
                due(size, NONE, x.fault(0));
                due(size + ": cells", rows * width, x.count(0));
                due(size + ": thick", 3 * rows * width, x.count(6));
                due(size + ": last cell", 3, x.thick(0, 8 * rows - 8 + width - 1));
                if (width < 8) due(size + ": right of it", BAD, x.thick(0, 8 * rows - 8 + width));
                if (rows < 4) due(size + ": below it", BAD, x.thick(0, 8 * rows));
            }
        }
        says(5, "the FAULT of the first byte of a fifth row");
        for (int width = 1; width <= 7; width++) {
            String four = pane(4, width, '1') + ";";
            due("not begun: its end", four.length(), faultOf(0, four));
            for (char b : new char[] {'1', ';', 'a'}) due("begun with " + b, four.length(), faultOf(0, four + b));
            due("two bytes of it", four.length(), faultOf(0, four + "11"));
        }
        due("eight wide there is no room for one", FULL, with(pane(4, 8, '1'), "").type(0, ';'));
        says(5, "the FAULT of a ninth column");
        due("eight", NONE, faultOf(0, "12345678"));
        due("nine", 8, faultOf(0, "123456789"));
        due("ten", 8, faultOf(0, "1234567890"));
        due("nine, ended", 8, faultOf(0, "123456789;"));
        due("eight, ended", 9, faultOf(0, "12345678;"));
    }

    private static void paneRows() {
        for (int width = 1; width <= 8; width++) {
            for (int rows = 1; rows <= 3; rows++) {
                String above = pane(rows, width, '2') + ";";
                int begin = above.length();
                says(5, "the FAULT of a byte more than the first row has");
                if (begin + width < 35) {
                    due(above, begin + width, faultOf(0, above + "2".repeat(width + 1)));
                }
                due(above + " just as wide", NONE, faultOf(0, above + "2".repeat(width)));
                for (int shorter = 0; shorter < width; shorter++) {
                    String row = above + "2".repeat(shorter);
                    says(5, "the FAULT of a ; that comes too soon");
                    due(row + ";", begin + shorter, faultOf(0, row + ";"));
                    due(row + ";2", begin + shorter, faultOf(0, row + ";2"));
                    says(5, "the FAULT of the end that comes too soon");
                    due(row, begin + shorter, faultOf(0, row));
                }
            }
        }
        says(5, "the FAULT of a ; that comes too soon: in the first row (1 to 8 wide)");
        due("at once", 0, faultOf(0, ";"));
        due("at once, more behind it", 0, faultOf(0, ";1"));
        says(5, "the place of the first byte with which it cannot go on");
        due("a before ;", 1, faultOf(0, "1a;;"));
        due("; before a", 2, faultOf(0, "1;;a"));
        due("byte more before a", 3, faultOf(0, "1;12a"));
        due("two of them on the road", 1, faultOf(1, ".;?"));
        says(5, "an empty one is well");
        due("pane", NONE, faultOf(0, ""));
        due("road", NONE, faultOf(1, ""));
    }

    private static void signs() {
        says(5, "figures, how THICK the frost on a CELL is (0 to 9)");
        for (int b = 0; b < 256; b++) {
            boolean figure = b >= '0' && b <= '9';
            FrostHole x = new FrostHole();
            x.type(0, b);
            due("byte " + b + " first", figure ? NONE : 0, x.fault(0));
            due("byte " + b + " thick", figure ? b - '0' : BAD, x.thick(0, 0));
            FrostHole y = with("4", "");
            y.type(0, b);
            due("byte " + b + " second", figure ? NONE : b == ';' ? 2 : 1, y.fault(0));
            due("byte " + b + " cells", figure ? 2 : 0, y.count(0));
            FrostHole z = with(pane(4, 8, '1').substring(0, 34), "");
            z.type(0, b);
            due("byte " + b + " last", figure ? NONE : 34, z.fault(0));
        }
        says(5, "THE ROAD is up to 40 bytes: . l r s x");
        for (int b = 0; b < 256; b++) {
            int kind = ".lrsx".indexOf(b);
            FrostHole x = with("1", "");
            for (int k = 0; k < 5; k++) x.looks(k, 0, k + 3);
            x.type(1, b);
            due("byte " + b, kind >= 0 ? NONE : 0, x.fault(1));
            due("byte " + b + " stretches", kind >= 0 ? 1 : 0, x.count(1));
            due("byte " + b + " risk", kind >= 0 ? kind + 3 : BAD, x.risk(0));
            FrostHole y = with("1", ".".repeat(39));
            y.type(1, b);
            due("byte " + b + " last", kind >= 0 ? NONE : 39, y.fault(1));
            due("byte " + b + " last, stretches", kind >= 0 ? 40 : 0, y.count(1));
        }
    }

    /** All that is answered but the bytes of the texts and their faults. */
    private static List<Long> answers(FrostHole x) {
        List<Long> seen = new ArrayList<>();
        for (int what : new int[] {0, 1, 4, 5, 6, 7, 8}) seen.add((long) x.count(what));
        seen.add((long) x.judged());
        for (int k = 0; k <= x.count(4); k++) {
            for (int what = 0; what <= 2; what++) seen.add((long) x.state(k, what));
        }
        for (int cell = 0; cell < 32; cell++) seen.add((long) x.thick(0, cell));
        for (int stretch = 0; stretch < 40; stretch++) {
            seen.add((long) x.risk(stretch));
            seen.add((long) x.bend(stretch, 0, 99));
        }
        for (int tool = 0; tool < 4; tool++) {
            seen.add((long) x.left(tool));
            seen.add((long) x.all(tool));
            for (int i = -1; i <= 3; i++) seen.add((long) x.first(tool, i));
            for (int what = 0; what <= 1; what++) {
                seen.add((long) x.stop(tool, 1, 9, what));
                seen.add((long) x.warm(20, tool, what));
                seen.add(x.tonight(5, 0, 0, tool, what));
            }
        }
        seen.add((long) x.melts(40, 0, 99));
        seen.add((long) x.cover(16, 0, 0, 0));
        seen.add((long) x.faced());
        return seen;
    }

    private static void faultyTexts() {
        String[] panes = {"345;62", "345;627;", "345;6278", ";", "3451?", "345;627;111;222;", "345;627;111;222;3", "345678912"};
        String[] roads = {".lx?", "?", ".lx;", "." .repeat(39) + "o"};
        says(5, "With a FAULT a text is as if it was empty: THE PANE");
        for (String ill : panes) {
            due(ill, 1, answers(struck(with(ill, ".lx"))).equals(answers(struck(with("", ".lx")))) ? 1 : 0);
        }
        says(5, "With a FAULT a text is as if it was empty: THE ROAD");
        for (String ill : roads) {
            due(ill, 1, answers(struck(with("345;627", ill))).equals(answers(struck(with("345;627", "")))) ? 1 : 0);
        }
        says(37, "2, 3 bytes of texts: also of one with a FAULT");
        due("pane", 6, with("345;62", "").count(2));
        due("road", 4, with("", ".lx?").count(3));
        says(5, "a text that is mended is as it is told again");
        FrostHole x = struck(with("345;62", ".l?"));
        due("no stroke is done", 0, x.count(5));
        x.type(0, '7');
        x.undo(1);
        due("cells", 6, x.count(0));
        due("stretches", 2, x.count(1));
        due("two strokes are done", 2, x.count(5));
    }

    private static FrostHole struck(FrostHole x) {
        x.stroke(SCRAPER, 0);
        x.stroke(CARD, 9);
        x.looks(1, 0, 9);
        return x;
    }

    // ---- promises 6 to 10: tools, looks, strokes

    private static void toolBounds() {
        int[] atFirst = {5, 8, 2, 12};
        says(6, "SECONDS (1 to 60), at first 5, 8, 2, 12");
        FrostHole x = with("3", "");
        for (int tool = 0; tool < 4; tool++) {
            due("0", BAD, x.tool(tool, 0, 0));
            due("61", BAD, x.tool(tool, 0, 61));
            due("at first", atFirst[tool], x.tool(tool, 0, 1));
            due("all by 1", 3, x.all(tool));
            due("was 1", 1, x.tool(tool, 0, 60));
            due("all by 60", 180, x.all(tool));
            due("was 60", 60, x.tool(tool, 0, atFirst[tool]));
        }
        says(6, "HOLDS (0 to 99; 99 at first)");
        for (int tool = 0; tool < 4; tool++) {
            due("-1", BAD, x.tool(tool, 1, -1));
            due("100", BAD, x.tool(tool, 1, 100));
            due("at first", 99, x.tool(tool, 1, 0));
            due("left of 0", 0, x.left(tool));
            due("was 0", 0, x.tool(tool, 1, 99));
            due("left of 99", 99, x.left(tool));
        }
        says(6, "SECONDS (what = 0), HOLDS (1): one is not the other");
        FrostHole y = new FrostHole();
        y.tool(HAND, 0, 7);
        due("holds", 99, y.tool(HAND, 1, 8));
        due("seconds", 7, y.tool(HAND, 0, 9));
        due("holds now", 8, y.tool(HAND, 1, 9));
        due("the tool beside it", 2, y.tool(SCRAPER, 0, 2));
        says(6, "HOLDS: 61 to 99 are well, as SECONDS they are BAD");
        due("holds 61", 9, y.tool(HAND, 1, 61));
        due("seconds 61", BAD, y.tool(HAND, 0, 61));
        due("holds 0", 61, y.tool(HAND, 1, 0));
        due("seconds 0", BAD, y.tool(HAND, 0, 0));
    }

    private static void looksBounds() {
        says(7, "LOOKS of a kind of stretch (0 to 4) through a CELL (0 to 31): at first 1 of . through each, else 0");
        FrostHole x = new FrostHole();
        for (int kind = 0; kind < 5; kind++) {
            for (int cell = 0; cell < 32; cell++) due(kind + " through " + cell, kind == 0 ? 1 : 0, x.looks(kind, cell, (kind + cell) % 10));
        }
        for (int kind = 0; kind < 5; kind++) {
            for (int cell = 0; cell < 32; cell++) due(kind + " through " + cell + " now", (kind + cell) % 10, x.looks(kind, cell, 0));
        }
        says(7, "0 to 9");
        due("-1", BAD, x.looks(2, 7, -1));
        due("10", BAD, x.looks(2, 7, 10));
        due("9", 0, x.looks(2, 7, 9));
        due("0", 9, x.looks(2, 7, 0));
        due("was 0", 0, x.looks(2, 7, 0));
        says(7, "through CELLS that there are not, too");
        FrostHole y = with("1", "s");
        due("31", 0, y.looks(3, 31, 9));
        due("no risk of it", 0, y.risk(0));
        tell(y, 0, "1111111;11111111;11111111;11111111");
        due("risk of it, when there is one", 9, y.risk(0));
    }

    private static FrostHole sheetOf(int items, int v) {
        FrostHole x = new FrostHole();
        x.sheet(0, 2, items);
        for (int i = 0; i < items; i++) x.lay(0, 2, i, v);
        return x;
    }

    private static void reading() {
        says(8, "32 at most");
        for (int items : new int[] {0, 1, 31, 32, 33, 60}) {
            FrostHole x = sheetOf(items, 7);
            int many = Math.min(items, 32);
            due(items + " items", many, x.read(0, 4));
            for (int cell = 0; cell < 32; cell++) due("cell " + cell, cell < many ? 7 : 0, x.looks(4, cell, 0));
        }
        says(8, "item by item, as long as each may be");
        int[] ill = {-1, 10, LEAST, Integer.MAX_VALUE, 256, 65536};
        for (int v : ill) {
            for (int at : new int[] {0, 1, 31}) {
                FrostHole x = sheetOf(40, 9);
                x.lay(0, 2, at, v);
                due(v + " at " + at, at, x.read(0, 0));
                for (int cell = 0; cell < 32; cell++) due("cell " + cell, cell < at ? 9 : 1, x.looks(0, cell, 0));
            }
        }
        says(8, "as long as each may be: an item behind the 32nd is not looked at");
        FrostHole x = sheetOf(33, 0);
        x.lay(0, 2, 32, 10);
        due("32", 32, x.read(0, 0));
        says(8, "as long as each may be: 0 and 9 may");
        FrostHole y = sheetOf(2, 0);
        y.lay(0, 2, 1, 9);
        due("both", 2, y.read(0, 0));
        due("0", 0, y.looks(0, 0, 0));
        due("9", 9, y.looks(0, 1, 0));
        says(8, "by a SHEET of any FORM; of this kind alone");
        for (int form = 0; form < 3; form++) {
            FrostHole z = new FrostHole();
            z.sheet(3, form, 2);
            z.lay(3, form, 0, 6);
            z.lay(3, form, 1, -1);
            due("form " + form, 1, z.read(3, form));
            due("read", 6, z.looks(form, 0, 0));
            due("not read", form == 0 ? 1 : 0, z.looks(form, 1, 0));
            due("kind below", 0, z.looks(form + 1, 0, 0));
        }
        says(8, "what is read counts at once");
        FrostHole w = with("11", "l");
        w.sheet(0, 0, 2);
        w.lay(0, 0, 1, 5);
        due("before", 0, w.state(0, 1));
        w.read(0, 1);
        due("behind", 5, w.state(0, 1));
    }

    private static void strokeBounds() {
        says(9, "STROKES, 40 at most (0 on)");
        FrostHole x = with(pane(4, 8, '1'), ".");
        for (int n = 1; n <= 40; n++) due("stroke " + n, n, x.stroke(SCRAPER, (n - 1) % 32));
        due("one too many", FULL, x.stroke(SCRAPER, 0));
        due("judged: the first at a cleared cell", 32, x.judged());
        due("done", 32, x.count(5));
        due("behind all", 0, x.state(40, 1));
        due("k beyond all", BAD, x.state(41, 1));
        due("back", 39, x.back());
        due("room again", 40, x.stroke(HAND, 31));
        due("full again", FULL, x.stroke(HAND, 31));
        says(10, "The last STROKE is undone: how many are left. NOT: there is none");
        for (int n = 39; n >= 0; n--) {
            due("back", n, x.back());
            due("risk", Math.max(0, 32 - n), x.state(n, 1));
            due("k beyond", BAD, x.state(n + 1, 1));
        }
        due("none", NOT, x.back());
        due("none, twice", NOT, x.back());
        due("none at first", NOT, new FrostHole().back());
        says(10, "what the last STROKE took is free again");
        FrostHole y = with("55", ".");
        y.tool(CARD, 1, 5);
        y.stroke(CARD, 0);
        y.stroke(CARD, 1);
        due("second not done", 1, y.judged());
        y.back();
        y.back();
        y.stroke(CARD, 1);
        due("now it is", NONE, y.judged());
    }

    // ---- promises 11 to 15: the morning

    private static void doneOrNot() {
        says(11, "done if the TOOL does as many still as the CELL is THICK");
        for (int thick = 1; thick <= 9; thick++) {
            FrostHole x = with(String.valueOf(thick), ".");
            x.stroke(GLOVE, 0);
            x.tool(GLOVE, 1, thick);
            due("holds as many", NONE, x.judged());
            due("none left", 0, x.left(GLOVE));
            x.tool(GLOVE, 1, thick - 1);
            due("one less", 0, x.judged());
            due("all left", thick - 1, x.left(GLOVE));
        }
        says(11, "how many such it does, all strokes together, till it is broken");
        FrostHole y = with("99999999;99991111", ".");
        for (int i = 0; i < 11; i++) y.stroke(HAND, i);
        due("99 in all", NONE, y.judged());
        due("broken", 0, y.left(HAND));
        y.stroke(HAND, 12);
        due("not one more", 11, y.judged());
        y.stroke(CARD, 12);
        due("another tool does it", 0, y.thick(13, 12));
        due("card", 98, y.left(CARD));
        says(11, "HOLDS 0: at once");
        FrostHole z = with("1", ".");
        z.tool(CARD, 1, 0);
        z.stroke(CARD, 0);
        due("broken", 0, z.judged());
        z.tool(CARD, 1, 1);
        due("holds one", NONE, z.judged());
        says(11, "a STROKE that is not done takes nothing; all others are looked at all the same");
        FrostHole w = with("954", ".");
        w.tool(SCRAPER, 1, 8);
        for (int cell = 0; cell < 3; cell++) w.stroke(SCRAPER, cell);
        due("judged", 0, w.judged());
        due("first not done", 9, w.thick(3, 0));
        due("second done", 0, w.thick(3, 1));
        due("third not done", 4, w.thick(3, 2));
        due("done", 1, w.count(5));
        due("seconds", 10, w.state(3, 0));
        due("left", 3, w.left(SCRAPER));
    }

    private static void judgedAndThick() {
        says(11, "JUDGED; NONE: with no STROKE, and with all of them done");
        due("no stroke", NONE, new FrostHole().judged());
        FrostHole x = with(pane(4, 8, '3'), ".");
        for (int cell = 0; cell < 32; cell++) x.stroke(cell % 4, cell);
        due("32 done", NONE, x.judged());
        due("all clear", 32, x.state(32, 2));
        says(11, "done if the CELL is there");
        for (int cell : new int[] {2, 7, 8, 16, 24, 31}) {
            FrostHole y = with("11", ".");
            y.stroke(CARD, 1);
            y.stroke(CARD, cell);
            due("cell " + cell, 1, y.judged());
            due("seconds", 5, y.state(2, 0));
        }
        says(11, "done if it is not clear");
        FrostHole y = with("01", ".");
        y.stroke(CARD, 0);
        due("clear at first", 0, y.judged());
        y.back();
        y.stroke(CARD, 1);
        due("not clear", NONE, y.judged());
        y.stroke(CARD, 1);
        due("clear now", 1, y.judged());
        says(11, "a STROKE in an empty PANE");
        FrostHole e = new FrostHole();
        e.stroke(CARD, 0);
        due("not done", 0, e.judged());
        says(12, "Behind k STROKES (0 to all)");
        FrostHole z = with("05;96", ".");
        z.stroke(CARD, 1);
        z.stroke(CARD, 0);
        z.stroke(HAND, 8);
        int[][] want = {{0, 5, 9, 6}, {0, 0, 9, 6}, {0, 0, 9, 6}, {0, 0, 0, 6}};
        int[] cells = {0, 1, 8, 9};
        for (int k = 0; k <= 3; k++) {
            for (int c = 0; c < 4; c++) due("behind " + k + ", cell " + cells[c], want[k][c], z.thick(k, cells[c]));
        }
        due("k = -1", BAD, z.thick(-1, 0));
        due("k = 4", BAD, z.thick(4, 0));
        due("no stroke, k = 0", 7, with("7", "").thick(0, 0));
        due("no stroke, k = 1", BAD, with("7", "").thick(1, 0));
        says(12, "BAD: also a CELL that there is not");
        due("right of the row", BAD, z.thick(0, 2));
        due("below", BAD, z.thick(0, 16));
        due("-1", BAD, z.thick(0, -1));
        due("32", BAD, z.thick(0, 32));
        due("empty pane", BAD, new FrostHole().thick(0, 0));
    }

    private static void states() {
        says(13, "SECONDS, RISK of THE ROAD, CELLS that are clear: of nothing");
        FrostHole e = new FrostHole();
        for (int what = 0; what <= 2; what++) due("what " + what, 0, e.state(0, what));
        due("what -1", BAD, e.state(0, -1));
        due("what 3", BAD, e.state(0, 3));
        says(13, "SECONDS: the most that 40 STROKES take");
        FrostHole x = with("99999999;99999999;99999999;99999999", ".".repeat(40));
        for (int tool = 0; tool < 4; tool++) x.tool(tool, 0, 60);
        for (int i = 0; i < 40; i++) x.stroke(i % 4, i % 32);
        due("seconds", 32 * 9 * 60, x.state(40, 0));
        due("seconds behind 31", 31 * 9 * 60, x.state(31, 0));
        due("clear cells", 32, x.state(40, 2));
        due("no risk left", 0, x.state(40, 1));
        says(13, "RISK of THE ROAD: the most");
        for (int cell = 0; cell < 32; cell++) x.looks(0, cell, 9);
        due("risk behind none", 32 * 9 * 40, x.state(0, 1));
        due("risk behind one", 31 * 9 * 40, x.state(1, 1));
        says(13, "CELLS that are clear: also those that were at first, each once");
        FrostHole y = with("00;10", "");
        y.stroke(CARD, 0);
        y.stroke(CARD, 8);
        y.stroke(CARD, 8);
        due("behind 0", 3, y.state(0, 2));
        due("behind 1", 3, y.state(1, 2));
        due("behind 2", 4, y.state(2, 2));
        due("behind 3", 4, y.state(3, 2));
        says(14, "How many a TOOL does still, behind all STROKES");
        due("at first", 99, e.left(HAND));
        FrostHole z = with("99;99", "");
        z.stroke(GLOVE, 0);
        due("one", 90, z.left(GLOVE));
        z.stroke(GLOVE, 0);
        due("not done", 90, z.left(GLOVE));
        z.back();
        z.back();
        due("none", 99, z.left(GLOVE));
    }

    private static void risks() {
        says(15, "RISK of a stretch (0 on) behind all STROKES");
        FrostHole x = with("19;05", ".lrsx");
        for (int kind = 0; kind < 5; kind++) {
            for (int cell = 0; cell < 32; cell++) x.looks(kind, cell, kind + 1);
        }
        for (int stretch = 0; stretch < 5; stretch++) due("stretch " + stretch, 3 * (stretch + 1), x.risk(stretch));
        due("-1", BAD, x.risk(-1));
        due("5", BAD, x.risk(5));
        x.stroke(CARD, 0);
        for (int stretch = 0; stretch < 5; stretch++) due("behind one, " + stretch, 2 * (stretch + 1), x.risk(stretch));
        x.stroke(CARD, 1);
        x.stroke(CARD, 9);
        for (int stretch = 0; stretch < 5; stretch++) due("behind all, " + stretch, 0, x.risk(stretch));
        due("no road", BAD, with("1", "").risk(0));
        due("no pane", 0, with("", ".").risk(0));
        says(15, "LOOKS through all CELLS that are not clear, together: the most, of the last stretch");
        FrostHole y = with(pane(4, 8, '1'), ".".repeat(39) + "x");
        y.sheet(0, 0, 32);
        for (int cell = 0; cell < 32; cell++) y.lay(0, 0, cell, 9);
        y.read(0, 4);
        due("stretch 39", 288, y.risk(39));
        due("stretch 38", 32, y.risk(38));
        due("stretch 40", BAD, y.risk(40));
        due("together", 288 + 39 * 32, y.state(0, 1));
    }

    // ---- promises 16 to 18: scraping

    private static void allSeconds() {
        says(16, "how many SECONDS all CELLS that are not clear yet take by a TOOL (HOLDS aside)");
        for (int tool = 0; tool < 4; tool++) {
            due("empty", 0, new FrostHole().all(tool));
            due("clear", 0, with("00;00", "").all(tool));
        }
        FrostHole x = with(pane(4, 8, '9'), "");
        x.tool(HAND, 0, 60);
        x.tool(HAND, 1, 0);
        due("the most", 17280, x.all(HAND));
        x.stroke(SCRAPER, 31);
        due("behind a stroke", 17280 - 540, x.all(HAND));
        x.stroke(HAND, 30);
        due("a stroke that is not done", 17280 - 540, x.all(HAND));
        due("1 second", 279, atOneSecond(x).all(HAND));
    }

    private static FrostHole atOneSecond(FrostHole x) {
        x.tool(HAND, 0, 1);
        return x;
    }

    private static void firstOrder() {
        says(17, "how many CELLS (i = NONE), the i-th (0 to 31; NONE)");
        FrostHole x = with(pane(4, 8, '1'), ".");
        for (int i = 0; i < 32; i++) due("i = " + i, i, x.first(CARD, i));
        due("many", 32, x.first(CARD, NONE));
        due("i = -2", BAD, x.first(CARD, -2));
        due("i = 32", BAD, x.first(CARD, 32));
        FrostHole y = with("111", ".");
        due("last", 2, y.first(CARD, 2));
        due("behind the last", NONE, y.first(CARD, 3));
        due("far behind it", NONE, y.first(CARD, 31));
        row("empty pane", with("", "."), CARD);
        row("empty road", with("111", ""), CARD);
        row("clear pane", with("000", "."), CARD);
        says(17, "of like ones the least");
        row("one ratio", with("123;321", "."), CARD, 0, 10, 1, 9, 2, 8);
        FrostHole z = with("963;321", ".");
        z.looks(0, 0, 9);
        z.looks(0, 1, 6);
        z.looks(0, 2, 3);
        z.looks(0, 8, 3);
        z.looks(0, 9, 2);
        row("one by one each", z, CARD, 0, 1, 2, 8, 9, 10);
        says(17, "the RISK falls most a SECOND: just more, just less");
        FrostHole w = with("98", ".");
        w.looks(0, 0, 9);
        w.looks(0, 1, 8);
        row("like", w, HAND, 0, 1);
        w.looks(0, 0, 8);
        row("8 by 9, 8 by 8", w, HAND, 1, 0);
        w.looks(0, 0, 9);
        w.looks(0, 1, 7);
        row("9 by 9, 7 by 8", w, HAND, 0, 1);
        w.looks(0, 1, 9);
        row("9 by 9, 9 by 8", w, HAND, 1, 0);
        FrostHole v = with("97", ".");
        v.looks(0, 0, 5);
        v.looks(0, 1, 4);
        row("5 by 9 is less than 4 by 7, both cut to 0", v, CARD, 1, 0);
        says(17, "CELLS that take no RISK off are not in it");
        FrostHole u = with("1111", "..");
        u.looks(0, 1, 0);
        u.looks(0, 2, 0);
        u.looks(1, 2, 9);
        row("no looks of this road's kinds", u, CARD, 0, 3);
        tell(u, 1, "l");
        row("a bend more", u, CARD, 2, 0, 3);
        u.looks(1, 2, 0);
        row("no looks", u, CARD, 0, 3);
        says(17, "FIRST, behind all STROKES: a clear CELL is not in it");
        u.stroke(SCRAPER, 0);
        row("scraped", u, CARD, 3);
        u.stroke(SCRAPER, 3);
        row("all scraped", u, CARD);
        u.back();
        row("undone", u, CARD, 3);
        says(17, "a CELL's part of the RISK of THE ROAD: of all stretches together");
        FrostHole t = with("33", "lr.");
        t.looks(0, 1, 0);
        t.looks(1, 1, 1);
        t.looks(2, 1, 1);
        row("1 and 1 are more than 1", t, CARD, 1, 0);
    }

    private static void stopping() {
        says(18, "of like ones the fewest");
        FrostHole x = with("1", ".");
        x.looks(0, 0, 2);
        due("2 c is 2 v", 0, x.stop(SCRAPER, 5, 5, 0));
        due("paid", 10, x.stop(SCRAPER, 5, 5, 1));
        due("v is one more", 1, x.stop(SCRAPER, 5, 6, 0));
        due("paid", 10, x.stop(SCRAPER, 5, 6, 1));
        due("c is one more", 0, x.stop(SCRAPER, 6, 5, 0));
        due("paid", 10, x.stop(SCRAPER, 6, 5, 1));
        FrostHole y = with("111", ".");
        y.looks(0, 0, 3);
        y.looks(0, 1, 2);
        y.looks(0, 2, 1);
        due("the second is like", 1, y.stop(SCRAPER, 1, 1, 0));
        due("paid", 5, y.stop(SCRAPER, 1, 1, 1));
        says(18, "a SECOND late costs c (0 to 99) and each RISK left v (0 to 99)");
        due("c = 0, v = 0: none", 0, y.stop(SCRAPER, 0, 0, 0));
        due("c = 0, v = 0: paid", 0, y.stop(SCRAPER, 0, 0, 1));
        due("c = 0: all", 3, y.stop(SCRAPER, 0, 1, 0));
        due("c = 0: paid", 0, y.stop(SCRAPER, 0, 99, 1));
        due("v = 0: none", 0, y.stop(SCRAPER, 99, 0, 0));
        due("v = 0: paid", 0, y.stop(SCRAPER, 99, 0, 1));
        due("99 each", 1, y.stop(SCRAPER, 99, 99, 0));
        due("99 each: paid", 495, y.stop(SCRAPER, 99, 99, 1));
        says(18, "what is paid: the most");
        FrostHole z = with(pane(4, 8, '9'), ".".repeat(40));
        z.sheet(0, 0, 32);
        for (int cell = 0; cell < 32; cell++) z.lay(0, 0, cell, 9);
        z.read(0, 0);
        z.tool(HAND, 0, 60);
        due("none is worth it", 0, z.stop(HAND, 99, 99, 0));
        due("all risk", 99 * 11520, z.stop(HAND, 99, 99, 1));
        due("all are", 32, z.stop(HAND, 65, 99, 0));
        due("all seconds", 65 * 17280, z.stop(HAND, 65, 99, 1));
        due("just so", 0, z.stop(HAND, 66, 99, 0));
        says(18, "STOP of nothing");
        due("empty", 0, new FrostHole().stop(CARD, 99, 99, 0));
        due("empty, paid", 0, new FrostHole().stop(CARD, 99, 99, 1));
        due("no road", 0, with("999", "").stop(CARD, 0, 99, 0));
        due("clear", 0, with("000", ".").stop(CARD, 0, 99, 1));
        says(18, "by a TOOL: its SECONDS alone (HOLDS are not told of)");
        FrostHole w = with("11", ".");
        w.tool(CARD, 1, 0);
        due("5 seconds, v = 5", 0, w.stop(CARD, 1, 5, 0));
        due("5 seconds, v = 6", 2, w.stop(CARD, 1, 6, 0));
        due("2 seconds, v = 3", 2, w.stop(SCRAPER, 1, 3, 0));
        due("12 seconds, v = 12", 0, w.stop(HAND, 1, 12, 0));
    }

    // ---- promises 19 to 22: warmth, water, breath

    private static void warmth() {
        says(19, "in SECONDS m, 2 m, and so on (m 1 to 60), 0 at least");
        for (int thick = 0; thick <= 9; thick++) {
            FrostHole x = with(thick + "0;0" + thick / 2, "");
            due("m = 1", thick, x.warm(1, HAND, 0));
            due("m = 60", 60 * thick, x.warm(60, HAND, 0));
        }
        due("m = 0", BAD, with("1", "").warm(0, CARD, 0));
        due("m = 61", BAD, with("1", "").warm(61, CARD, 0));
        says(19, "The first SECOND in which all CELLS are clear: at once");
        for (int what = 0; what <= 1; what++) {
            due("empty", 0, new FrostHole().warm(7, CARD, what));
            due("clear", 0, with("00;00", "").warm(7, CARD, what));
        }
        says(19, "behind all STROKES");
        FrostHole s = with("93", "");
        s.stroke(HAND, 0);
        due("engine", 30, s.warm(10, SCRAPER, 0));
        due("both", 6, s.warm(10, SCRAPER, 1));
        s.stroke(HAND, 1);
        due("all scraped", 0, s.warm(10, SCRAPER, 1));
        says(19, "what melts in that SECOND is melted already");
        due("stroke ends as it melts: 4 and 2", 6, with("22", "").warm(4, SCRAPER, 1));
        due("it melts a second later: 4 and 4", 8, with("22", "").warm(5, SCRAPER, 1));
        due("it melts a second sooner", 6, with("22", "").warm(3, SCRAPER, 1));
        says(19, "as long as it takes by how THICK that is then");
        due("melting beneath makes no stroke shorter", 12, seconds(with("3", ""), 4).warm(5, HAND, 1));
        due("the engine is done just then", 12, seconds(with("3", ""), 4).warm(4, HAND, 1));
        due("the engine is done a second sooner", 3, seconds(with("3", ""), 4).warm(1, HAND, 1));
        says(19, "that CELL is clear in the SECOND in which it ends");
        due("one cell", 2, with("1", "").warm(60, SCRAPER, 1));
        due("two cells", 4, with("11", "").warm(60, SCRAPER, 1));
        due("slow tool: it melts first", 59, seconds(with("1", ""), 60).warm(59, HAND, 1));
        due("both at once", 60, seconds(with("1", ""), 60).warm(60, HAND, 1));
        due("the tool first", 59, seconds(with("1", ""), 59).warm(60, HAND, 1));
        says(19, "each at the CELL that is THICKEST when it begins");
        // 5 first: 0 to 10; then 3 less 1: 10 to 14; the thinner first would be 6 and 5 less 0: 16.
        due("the thick one first", 14, with("35", "").warm(10, SCRAPER, 1));
        // The 9 from 0 to 18; the 8s are 7 then: one from 18 to 32, the other, still 7, from 32 to 46.
        due("three", 46, with("898", "").warm(18, SCRAPER, 1));
        says(19, "what melts beside the scraping needs no stroke");
        // The 5 takes from 0 to 10 in each of these.
        due("1, melted at 3", 10, with("51", "").warm(3, SCRAPER, 1));
        due("2, melted at 8", 10, with("52", "").warm(4, SCRAPER, 1));
        due("2, melted at 10, as the stroke ends", 10, with("52", "").warm(5, SCRAPER, 1));
        due("2, still 1 at 10, melted as its stroke ends", 12, with("52", "").warm(6, SCRAPER, 1));
        due("2, still 1 at 10", 12, with("52", "").warm(7, SCRAPER, 1));
        due("2, still 2 at 10", 14, with("52", "").warm(11, SCRAPER, 1));
        due("4 and 1: the 4 is 2 at 10", 14, with("541", "").warm(4, SCRAPER, 1));
        says(19, "HOLDS aside");
        FrostHole h = with("9", "");
        h.tool(SCRAPER, 1, 0);
        due("broken", 18, h.warm(60, SCRAPER, 1));
        says(19, "the most");
        FrostHole f = with(pane(4, 8, '9'), "");
        f.tool(HAND, 0, 60);
        due("engine", 540, f.warm(60, HAND, 0));
        due("both", 540, f.warm(60, HAND, 1));
        f.tool(HAND, 0, 1);
        due("quick tool, quick engine", 9, f.warm(1, HAND, 1));
    }

    private static FrostHole seconds(FrostHole x, int each) {
        x.tool(HAND, 0, each);
        return x;
    }

    private static void water() {
        says(20, "if w and d together are more than 40 it cracks: 1, 0");
        FrostHole x = new FrostHole();
        for (int d = 0; d <= 30; d++) {
            due("40 together, d = " + d, 0, x.crack(40 - d, d));
            due("41 together, d = " + d, 1, x.crack(41 - d, d));
        }
        due("w = 0", 0, x.crack(0, 0));
        due("w = 0, d = 30", 0, x.crack(0, 30));
        due("w = 99", 1, x.crack(99, 0));
        says(20, "WATER (w = NONE): the most degrees by which it does not crack");
        FrostHole y = new FrostHole();
        for (int d = 0; d <= 30; d++) {
            int w = y.crack(NONE, d);
            due("d = " + d, 40 - d, w);
            due("by it, d = " + d, 0, y.crack(w, d));
            due("by one more, d = " + d, 1, y.crack(w + 1, d));
        }
        says(21, "NOT: it cracks");
        FrostHole z = with("1", "");
        for (int d = 0; d <= 30; d++) {
            due("40 together, d = " + d, 1, z.melts(40 - d, d, 1));
            due("41 together, d = " + d, NOT, z.melts(41 - d, d, 1));
        }
        due("99", NOT, z.melts(99, 0, 1));
    }

    private static void cups() {
        says(21, "it takes off w by 10, cut");
        for (int w = 0; w <= 40; w++) {
            int off = w / 10;
            for (int thick = 1; thick <= 4; thick++) {
                due("w = " + w + " of " + thick, off >= thick ? 1 : 0, with("" + thick, "").melts(w, 0, 1));
            }
        }
        says(21, "k (0 to 99) cups");
        FrostHole x = with(pane(4, 8, '9'), "");
        due("none", 0, x.melts(40, 0, 0));
        due("2 of 3 cups", 0, x.melts(40, 0, 2));
        due("3 cups", 1, x.melts(40, 0, 3));
        due("95", 31, x.melts(40, 0, 95));
        due("96", 32, x.melts(40, 0, 96));
        due("99", 32, x.melts(40, 0, 99));
        due("98 of 1 each", 10, x.melts(10, 30, 98));
        due("99 of 1 each", 11, x.melts(10, 30, 99));
        due("too cool", 0, x.melts(9, 30, 99));
        due("100", BAD, x.melts(10, 30, 100));
        due("-1", BAD, x.melts(10, 30, -1));
        says(21, "how many CELLS that are not clear: of none");
        due("empty", 0, new FrostHole().melts(40, 0, 99));
        due("clear", 0, with("000", "").melts(40, 0, 99));
        due("clear ones take no cup", 1, with("0001", "").melts(10, 0, 1));
        says(21, "what the CELL does not need of it is lost");
        due("1 1 by one cup of 4", 1, with("11", "").melts(40, 0, 1));
        due("1 1 by two cups of 4", 2, with("11", "").melts(40, 0, 2));
        due("5 1 by two cups of 4", 1, with("51", "").melts(40, 0, 2));
        due("5 1 by three cups of 4", 2, with("51", "").melts(40, 0, 3));
        says(21, "the thinnest first");
        due("9 1 by one", 1, with("91", "").melts(10, 0, 1));
        due("9 2 1 by three", 2, with("921", "").melts(10, 0, 3));
        due("9 2 1 by two", 1, with("921", "").melts(10, 0, 2));
        due("9 2 1 by eleven", 2, with("921", "").melts(10, 0, 11));
        due("9 2 1 by twelve", 3, with("921", "").melts(10, 0, 12));
        says(21, "behind all STROKES");
        FrostHole y = with("21", "");
        y.stroke(CARD, 1);
        due("one cup", 0, y.melts(10, 0, 1));
        due("two cups", 1, y.melts(10, 0, 2));
        y.stroke(CARD, 0);
        due("none left", 0, y.melts(10, 0, 99));
    }

    private static void breath() {
        says(22, "The pane is white in minutes in which it is more than 10");
        FrostHole x = new FrostHole();
        int[] firsts = {10, 5, 3, 2, 2};
        for (int people = 1; people <= 5; people++) due(people + " people", firsts[people - 1], x.again(people, 0, 0, 0));
        due("10 and no more", NONE, x.again(1, 1, 10, 0));
        due("11", 10, x.again(1, 1, 11, 0));
        due("10 by two and no more", NONE, x.again(2, 2, 5, 0));
        due("12 by two", 5, x.again(2, 2, 6, 0));
        says(22, "from minute t (0 to 60) on");
        due("t = 0: never", NONE, x.again(5, 5, 0, 0));
        due("t = 2: 10 and no more", NONE, x.again(5, 5, 2, 0));
        due("t = 3: 15", 2, x.again(5, 5, 3, 0));
        due("t = 60", 10, x.again(1, 9, 60, 0));
        // 60 behind minute 59, then 8 less a minute: 52 .. 12 in minute 65, 4 in minute 66.
        due("t = 60, clears", 66, x.again(1, 9, 60, 1));
        // 59 behind minute 58, then 8 less: 11 in minute 64, 3 in minute 65.
        due("t = 59, clears", 65, x.again(1, 9, 59, 1));
        says(22, "b (0 to 9) less");
        due("b = 0", NONE, x.again(1, 0, 0, 1));
        due("b = 9 of 1", 0, x.again(1, 9, 0, 1));
        due("b = people: stays", NONE, x.again(4, 4, 3, 1));
        says(22, "0: it never is");
        due("first", NONE, x.again(5, 9, 0, 0));
        due("from", 0, x.again(5, 9, 0, 1));
        due("10 all along", 0, x.again(1, 1, 10, 1));
        says(22, "the first from which on it is not white till minute 120; NONE: it is in minute 120");
        due("11 all along", NONE, x.again(1, 1, 11, 1));
        // 15 in minute 2, then 4 less: 11 in minute 3, 7 in minute 4.
        due("11 is white yet", 4, x.again(5, 9, 3, 1));
        // 12 in minute 3, then 2 less: 10 in minute 4.
        due("10 is not", 4, x.again(3, 5, 4, 1));
        // 168 behind minute 41, then 2 less each minute: 12 in minute 119, 10 in minute 120.
        due("white in minute 119 as the last", 120, x.again(4, 6, 42, 1));
        // 172 behind minute 42, then 2 less each minute: 16 in minute 120.
        due("white in minute 120", NONE, x.again(4, 6, 43, 1));
        // 99 behind minute 32, then 1 less: 11 in minute 120; 96 behind minute 31: 10 in minute 117, 11 in 116.
        due("11 in minute 120", NONE, x.again(3, 4, 33, 1));
        due("11 in minute 116 as the last", 117, x.again(3, 4, 32, 1));
    }

    // ---- promises 23 to 25: nights

    private static void nights() {
        says(23, "6, less 4 for cloud, less wind (0 at least)");
        FrostHole x = new FrostHole();
        int[][] open = {{6, 5, 4, 3}, {2, 1, 0, 0}};
        for (int sky = 0; sky < 2; sky++) {
            for (int wind = 0; wind < 4; wind++) due(sky + " " + wind, open[sky][wind], x.night(sky, wind, 0));
        }
        says(23, "by a wall less half (cut) of what is left");
        int[][] wall = {{3, 3, 2, 2}, {1, 1, 0, 0}};
        for (int sky = 0; sky < 2; sky++) {
            for (int wind = 0; wind < 4; wind++) due(sky + " " + wind, wall[sky][wind], x.night(sky, wind, 1));
        }
        says(24, "as many CELLS as THE PANE has: none, one, 32");
        due("none, above", 0, x.tonight(16, 0, 0, HAND, 0));
        due("none, below", 1, x.tonight(16, 0, 0, HAND, 1));
        due("one, above", 72, with("0", "").tonight(16, 0, 0, HAND, 0));
        FrostHole most = with(pane(4, 8, '0'), "");
        most.tool(HAND, 0, 60);
        due("the most", 32 * 60 * 6, most.tonight(16, 0, 0, HAND, 0));
        due("the most, below", 1, most.tonight(16, 0, 0, HAND, 1));
        says(24, "clear at evening: whatever THE PANE and STROKES are now");
        FrostHole thick = with("9", "");
        due("thick", 72, thick.tonight(16, 0, 0, HAND, 0));
        thick.stroke(CARD, 0);
        due("scraped", 72, thick.tonight(16, 0, 0, HAND, 0));
        says(24, "clear by p sixteenths (0 to 16), else cloud");
        FrostHole one = with("5", "");
        one.tool(HAND, 0, 1);
        // p times 6 and 16 - p times 2, by 16: 32 and 4 p by 16, 8 and p by 4.
        long[][] want = {{2, 1}, {9, 4}, {5, 2}, {11, 4}, {3, 1}, {13, 4}, {7, 2}, {15, 4}, {4, 1},
            {17, 4}, {9, 2}, {19, 4}, {5, 1}, {21, 4}, {11, 2}, {23, 4}, {6, 1}};
        for (int p = 0; p <= 16; p++) {
            due("above, p = " + p, want[p][0], one.tonight(p, 0, 0, HAND, 0));
            due("below, p = " + p, want[p][1], one.tonight(p, 0, 0, HAND, 1));
        }
        says(24, "FRACTIONS are told in lowest terms, above and below (0 by 1)");
        // Wind 2: p times 4 by 16. Wind 3 by a wall: p times 2 by 16. Wind 3: p times 3 by 16.
        for (int p = 0; p <= 16; p++) {
            lowest(one, p, 2, 0, 4 * p);
            lowest(one, p, 3, 1, 2 * p);
            lowest(one, p, 3, 0, 3 * p);
            lowest(one, p, 0, 0, 6 * p + 2 * (16 - p));
            lowest(one, p, 1, 0, 5 * p + (16 - p));
            lowest(one, p, 1, 1, 3 * p + (16 - p));
        }
        due("0 by 1, above", 0, one.tonight(0, 3, 0, HAND, 0));
        due("0 by 1, below", 1, one.tonight(0, 3, 0, HAND, 1));
    }

    private static void lowest(FrostHole x, int p, int wind, int wall, int sixteenths) {
        long common = BigInteger.valueOf(sixteenths).gcd(BigInteger.valueOf(16)).longValue();
        String told = "p = " + p + ", wind " + wind + ", wall " + wall;
        due(told + " above", sixteenths / common, x.tonight(p, wind, wall, HAND, 0));
        due(told + " below", 16 / common, x.tonight(p, wind, wall, HAND, 1));
    }

    private static void covers() {
        says(25, "worth it, if it is truly less on the mean than TONIGHT: 1, 0");
        FrostHole x = with("0", "");
        // One cell by the card: 10 by a cloudy sky, 30 by a clear one.
        due("cloud, one less", 1, x.cover(0, 9, 0, 0));
        due("cloud, like", 0, x.cover(0, 10, 0, 0));
        due("clear, one less", 1, x.cover(16, 29, 0, 0));
        due("clear, like", 0, x.cover(16, 30, 0, 0));
        due("a sixteenth less", 1, x.cover(16, 29, 15, 1));
        due("like by sixteenths", 0, x.cover(16, 29, 16, 1));
        // p = 1: 10 and 20 sixteenths.
        due("p = 1, a sixteenth less", 1, x.cover(1, 11, 1, 3));
        due("p = 1, like", 0, x.cover(1, 11, 1, 4));
        due("p = 1, a sixteenth more", 0, x.cover(1, 11, 1, 5));
        says(25, "c (0 to 9999), s sixteenths (0 to 16), e (0 to 9999)");
        due("all 0", 1, x.cover(0, 0, 0, 0));
        due("s = 0: e is nothing", 1, x.cover(0, 9, 0, 9999));
        due("s = 16: all of e", 0, x.cover(0, 0, 16, 10));
        due("s = 16: all of e, one less", 1, x.cover(0, 0, 16, 9));
        due("most", 0, x.cover(16, 9999, 16, 9999));
        FrostHole most = with(pane(4, 8, '0'), "");
        most.tool(CARD, 0, 60);
        due("11520 at the most, c", 1, most.cover(16, 9999, 0, 9999));
        due("11520 at the most, one less", 1, most.cover(16, 9999, 16, 1520));
        due("11520 at the most, like", 0, most.cover(16, 9999, 16, 1521));
        says(25, "there is no frost then: of an empty PANE nothing is less");
        due("empty", 0, new FrostHole().cover(16, 0, 0, 0));
        says(25, "with wind 0, no wall, the card");
        FrostHole y = with("0", "");
        for (int tool = 1; tool < 4; tool++) y.tool(tool, 0, 60);
        due("other tools aside", 0, y.cover(16, 30, 0, 0));
        y.tool(CARD, 0, 1);
        due("the card", 0, y.cover(16, 6, 0, 0));
        due("the card, one less", 1, y.cover(16, 5, 0, 0));
        y.tool(CARD, 1, 0);
        due("HOLDS aside", 1, y.cover(16, 5, 0, 0));
    }

    // ---- promises 26 to 30: street, pattern, bend

    private static void streetBounds() {
        says(26, "SECONDS (1 to 9999), LEAVE at a SECOND (0 to 9999)");
        FrostHole x = new FrostHole();
        due("0", BAD, x.car(0, 5));
        due("10000", BAD, x.car(10000, 5));
        due("leave -1", BAD, x.car(5, -1));
        due("leave 10000", BAD, x.car(5, 10000));
        due("none came", 0, x.count(7));
        due("1, 0", 1, x.car(1, 0));
        due("9999, 9999", 2, x.car(9999, 9999));
        due("late 1 and 1, or 0 and 10000", 2, x.lent(NONE));
        says(26, "7 cars at most");
        FrostHole y = new FrostHole();
        for (int n = 1; n <= 7; n++) due("car " + n, n, y.car(9999, 0));
        due("one too many", FULL, y.car(1, 0));
        due("how much, at the most", 9999 * 28, y.lent(NONE));
        due("gone", 6, y.gone());
        due("room again", 7, y.car(1, 0));
        due("full again", FULL, y.car(1, 0));
        due("the quick one first", 6, y.lent(0));
        says(27, "The last car is gone: how many are left. NOT: there is none");
        for (int n = 6; n >= 0; n--) {
            due("gone", n, y.gone());
            due("late", 9999L * n * (n + 1) / 2, y.lent(NONE));
            due("no more", NONE, y.lent(n));
        }
        due("none", NOT, y.gone());
        due("none, twice", NOT, y.gone());
        due("none at first", NOT, new FrostHole().gone());
        due("a car again", 1, y.car(5, 5));
    }

    private static void lentOrder() {
        says(28, "how much (i = NONE), the i-th car (0 to 6; NONE)");
        FrostHole e = new FrostHole();
        due("empty, how much", 0, e.lent(NONE));
        for (int i = 0; i <= 6; i++) due("empty, " + i, NONE, e.lent(i));
        due("i = -2", BAD, e.lent(-2));
        due("i = 7", BAD, e.lent(7));
        FrostHole x = new FrostHole();
        for (int car = 0; car < 7; car++) {
            x.car(7 - car, 0);
            for (int i = 0; i <= 6; i++) due(car + " cars more, " + i, i <= car ? car - i : NONE, x.lent(i));
        }
        due("how much", 1 + 3 + 6 + 10 + 15 + 21 + 28, x.lent(NONE));
        says(28, "LATE is how much later it is done than that, 0 at least");
        FrostHole y = new FrostHole();
        y.car(10, 10);
        due("just in time", 0, y.lent(NONE));
        y.gone();
        y.car(10, 9);
        due("one late", 1, y.lent(NONE));
        y.gone();
        y.car(10, 9999);
        due("early counts nothing", 0, y.lent(NONE));
        y.car(10, 10);
        due("early makes up for none", 0, y.lent(NONE));
        due("the one in haste first", 1, y.lent(0));
        y.car(10, 10);
        due("one of two late", 10, y.lent(NONE));
        says(28, "of like ones the least row");
        order("all early", new int[][] {{5, 9999}, {1, 9999}, {3, 9999}}, 0, 0, 1, 2);
        order("all alike", new int[][] {{5, 0}, {5, 0}, {5, 0}}, 30, 0, 1, 2);
        order("the quick one first", new int[][] {{4, 2}, {2, 0}}, 6, 1, 0);
        order("the later may wait", new int[][] {{1, 3}, {2, 3}}, 0, 0, 1);
        order("either is 1 late", new int[][] {{2, 2}, {1, 2}}, 1, 0, 1);
        order("seven alike", new int[][] {{1, 0}, {1, 0}, {1, 0}, {1, 0}, {1, 0}, {1, 0}, {1, 0}}, 28, 0, 1, 2, 3, 4, 5, 6);
        order("just less", new int[][] {{3, 2}, {1, 2}}, 2, 1, 0);
    }

    private static void order(String what, int[][] cars, int late, int... want) {
        FrostHole x = new FrostHole();
        for (int[] car : cars) x.car(car[0], car[1]);
        due(what + ": late", late, x.lent(NONE));
        for (int i = 0; i < want.length; i++) due(what + ": " + i, want[i], x.lent(i));
    }

    private static void facedWay() {
        says(29, "LEFT, if each row never falls from the left to the right and in some it rises: 0");
        String[] left = {"01", "12;12", "11;12", "12;11", "0000000" + "1", "0123456" + "7", "99;89", "00;00;00;01", "01;00;00;00",
            "11111111;11111111;11111111;11111112"};
        for (String told : left) due(told, 0, with(told, "").faced());
        says(29, "RIGHT the other way about: 1");
        for (String told : left) {
            String[] rows = told.split(";");
            for (int r = 0; r < rows.length; r++) rows[r] = new StringBuilder(rows[r]).reverse().toString();
            String mirrored = String.join(";", rows);
            due(mirrored, 1, with(mirrored, "").faced());
        }
        says(29, "else NONE");
        String[] none = {"", "0", "9", "11", "00;00", "1;2;3;4", "12;21", "121", "212", "01;01;01;10", "10;01;01;01", "0123456" + "6;10000000",
            "11111111;22222222;33333333;11111111", "12;", "1;2", "2;1"};
        for (String told : none) due("'" + told + "'", NONE, with(told, "").faced());
        says(29, "from row to row does not count");
        due("9 over 0", 0, with("99;01", "").faced());
        due("full rows", 0, with("12345678;12345678;12345678;12345678", "").faced());
        due("full rows, falling", 1, with("87654321;87654321;87654321;87654321", "").faced());
        says(29, "by THE PANE as it is told (not behind STROKES)");
        FrostHole x = with("123", "");
        x.stroke(CARD, 2);
        due("scraped", 0, x.faced());
    }

    private static void bends() {
        says(30, "1: stopping is truly less");
        FrostHole x = with("111", ".");
        for (int a : new int[] {1, 2, 33, 99}) {
            due("one less, a = " + a, 1, x.bend(0, 3 * a - 1, a));
            due("like, a = " + a, 0, x.bend(0, 3 * a, a));
            due("one more, a = " + a, 0, x.bend(0, 3 * a + 1, a));
        }
        says(30, "w (0 to 999) SECONDS, a (0 to 99) SECONDS");
        due("nothing either way", 0, x.bend(0, 0, 0));
        due("w = 0", 1, x.bend(0, 0, 1));
        due("a = 0", 0, x.bend(0, 999, 0));
        due("w = 999", 0, x.bend(0, 999, 99));
        x.looks(0, 0, 9);
        due("11 is 1089", 1, x.bend(0, 999, 99));
        x.looks(0, 0, 8);
        due("10 is 990", 0, x.bend(0, 999, 99));
        due("10 is 990, w = 989", 1, x.bend(0, 989, 99));
        due("10 is 990, w = 990", 0, x.bend(0, 990, 99));
        says(30, "at a stretch (0 on), behind all STROKES");
        FrostHole y = with("1", ".".repeat(39) + "x");
        y.looks(4, 0, 9);
        due("stretch 39", 1, y.bend(39, 8, 1));
        due("stretch 38", 0, y.bend(38, 8, 1));
        due("stretch 40", BAD, y.bend(40, 8, 1));
        due("stretch -1", BAD, y.bend(-1, 8, 1));
        y.stroke(CARD, 0);
        due("scraped", 0, y.bend(39, 0, 99));
        due("no road", BAD, with("1", "").bend(0, 0, 0));
        due("no pane", 0, with("", ".").bend(0, 0, 99));
    }

    // ---- promises 31 to 36: sheets

    private static void sheetSizes() {
        for (int form = 0; form < 3; form++) {
            says(31, "a row of 0 to 60 items, form " + form);
            for (int s = 0; s < 4; s++) {
                FrostHole x = new FrostHole();
                for (int n : new int[] {0, 1, 59, 60}) {
                    due("n", n, x.sheet(s, form, n));
                    due("no item behind the last", LEAST, x.get(s, form, n));
                    due("INDEX", 2, x.count(8));
                    if (n > 0) due("the last item", 0, x.get(s, form, n - 1));
                }
                due("61", BAD, x.sheet(s, form, 61));
                due("-1", -15, x.sheet(s, form, -1));
                due("lost: how many items it had", 60, x.lose(s));
                due("lost", -11, x.lose(s));
            }
        }
        says(31, "0 at first: a new row has nothing of the one before");
        FrostHole x = new FrostHole();
        for (int form = 0; form < 3; form++) {
            x.sheet(0, form, 60);
            for (int i = 0; i < 60; i++) due("item " + i, 0, x.get(0, form, i));
            for (int i = 0; i < 60; i++) x.lay(0, form, i, i + 1);
        }
        says(31, "0 at first: also a longer one, and one behind a LOST one");
        FrostHole y = new FrostHole();
        y.sheet(1, 2, 60);
        y.lay(1, 2, 59, 7);
        y.lay(1, 2, 0, 7);
        y.sheet(1, 2, 1);
        y.sheet(1, 2, 60);
        due("first", 0, y.get(1, 2, 0));
        due("last", 0, y.get(1, 2, 59));
        y.lay(1, 2, 30, 7);
        y.lose(1);
        y.sheet(1, 2, 60);
        due("behind a lost one", 0, y.get(1, 2, 30));
        says(31, "a new row has its new FORM");
        y.sheet(1, 0, 3);
        due("bytes", 1, y.lay(1, 0, 2, 5));
        due("no ints", -13, y.lay(1, 2, 2, 5));
        says(32, "It is LOST: how many items it had");
        FrostHole z = new FrostHole();
        for (int n : new int[] {0, 1, 60}) {
            z.sheet(3, 1, n);
            z.sheet(2, 1, 9);
            due("had", n, z.lose(3));
            due("the others stay", 9, z.lose(2));
        }
    }

    private static void bits() {
        says(33, "v (the lowest bits that it has)");
        int[] laid = {0, 1, -1, 127, 128, 255, 256, -128, -129, 32767, 32768, 65535, 65536, -32768, -32769,
            Integer.MAX_VALUE, LEAST, LEAST + 127, LEAST + 128};
        for (int v : laid) {
            FrostHole x = new FrostHole();
            for (int form = 0; form < 3; form++) {
                x.sheet(form, form, 60);
                due("lay first", 1, x.lay(form, form, 0, v));
                due("lay last", 1, x.lay(form, form, 59, v));
            }
            int low = Math.floorMod(v, 256), middle = Math.floorMod(v, 65536);
            due(v + " as a byte", low < 128 ? low : low - 256, x.get(0, 0, 0));
            due(v + " as a short", middle < 32768 ? middle : middle - 65536, x.get(1, 1, 0));
            due(v + " as an int", v, x.get(2, 2, 0));
            due(v + " as the last byte", low < 128 ? low : low - 256, x.get(0, 0, 59));
            due(v + " as the last short", middle < 32768 ? middle : middle - 65536, x.get(1, 1, 59));
            due(v + " as the last int", v, x.get(2, 2, 59));
            due("beside it", 0, x.get(0, 0, 1));
            due("beside it", 0, x.get(1, 1, 58));
        }
        says(34, "an item that is the least int is told as it is, and is no FINDING");
        FrostHole y = new FrostHole();
        y.sheet(0, 2, 1);
        y.lay(0, 2, 0, LEAST);
        due("the item", LEAST, y.get(0, 2, 0));
        due("no finding", 0, y.count(8));
        says(34, "BAD: the least int; count() 8 tells NULL, CAST, INDEX from it");
        due("BAD", LEAST, y.get(4, 2, 0));
        due("no finding", 0, y.count(8));
        due("INDEX", LEAST, y.get(0, 2, 1));
        due("2", 2, y.count(8));
        due("CAST", LEAST, y.get(0, 1, 0));
        due("3", 3, y.count(8));
        due("NULL", LEAST, y.get(1, 1, 0));
        due("1", 1, y.count(8));
    }

    private static FrostHole counted(int form, int... sizes) {
        FrostHole x = new FrostHole();
        for (int s = 0; s < sizes.length; s++) {
            x.sheet(s, form, sizes[s]);
            for (int i = 0; i < sizes[s]; i++) x.lay(s, form, i, 10 * s + i);
        }
        return x;
    }

    private static void itemsAre(String what, FrostHole x, int s, int form, int... want) {
        int[] got = new int[want.length];
        for (int i = 0; i < want.length; i++) got[i] = x.get(s, form, i);
        due(what + " " + Arrays.toString(got) + " is " + Arrays.toString(want) + ", which", 1, Arrays.equals(got, want) ? 1 : 0);
    }

    private static void copying() {
        for (int form = 0; form < 3; form++) {
            says(35, "perhaps s, as they were, form " + form);
            FrostHole x = counted(form, 6);
            due("up", 1, x.copy(0, 0, 0, 1, 5));
            itemsAre("up", x, 0, form, 0, 0, 1, 2, 3, 4);
            FrostHole y = counted(form, 6);
            due("down", 1, y.copy(0, 1, 0, 0, 5));
            itemsAre("down", y, 0, form, 1, 2, 3, 4, 5, 5);
            due("onto itself", 1, y.copy(0, 0, 0, 0, 6));
            itemsAre("onto itself", y, 0, form, 1, 2, 3, 4, 5, 5);
            says(35, "n items of SHEET s, from i on, come to SHEET t, from j on, form " + form);
            FrostHole z = counted(form, 4, 6);
            due("all", 1, z.copy(0, 0, 1, 2, 4));
            itemsAre("all", z, 1, form, 10, 11, 0, 1, 2, 3);
            itemsAre("those copied stay", z, 0, form, 0, 1, 2, 3);
            due("the last to the first", 1, z.copy(1, 5, 0, 0, 1));
            itemsAre("the last to the first", z, 0, form, 3, 1, 2, 3);
            due("none", 1, z.copy(1, 0, 0, 0, 0));
            itemsAre("none", z, 0, form, 3, 1, 2, 3);
        }
        says(35, "INDEX: below 0, not so many");
        FrostHole w = counted(2, 4, 6);
        due("4 of 4", 1, w.copy(0, 0, 1, 0, 4));
        due("5 of 4", -12, w.copy(0, 0, 1, 0, 5));
        due("from 1 4 of 4", -12, w.copy(0, 1, 1, 0, 4));
        due("to 2 4 of 6", 1, w.copy(0, 0, 1, 2, 4));
        due("to 3 4 of 6", -12, w.copy(0, 0, 1, 3, 4));
        due("from the end none", 1, w.copy(0, 4, 1, 6, 0));
        due("from behind the end none", -12, w.copy(0, 5, 1, 6, 0));
        due("to behind the end none", -12, w.copy(0, 4, 1, 7, 0));
        due("i = -1", -12, w.copy(0, -1, 1, 0, 1));
        due("j = -1", -12, w.copy(0, 0, 1, -1, 1));
        due("n = -1", -12, w.copy(0, 0, 1, 0, -1));
        due("i and n that wrap around", -12, w.copy(0, Integer.MAX_VALUE, 1, 0, 2));
        due("j and n that wrap around", -12, w.copy(0, 0, 1, Integer.MAX_VALUE - 2, 4));
        says(35, "of SHEETS without items");
        FrostHole e = counted(0, 0, 0);
        due("none", 1, e.copy(0, 0, 1, 0, 0));
        due("one", -12, e.copy(0, 0, 1, 0, 1));
        due("none of itself", 1, e.copy(0, 0, 0, 0, 0));
        says(35, "a copy is no tie: what is laid later stays apart");
        FrostHole v = counted(1, 2, 2);
        v.copy(0, 0, 1, 0, 2);
        v.lay(0, 1, 0, 99);
        itemsAre("apart", v, 1, 1, 0, 1);
    }

    private static void writing() {
        says(36, "as many as there are items and such CELLS: how many");
        for (int form = 0; form < 3; form++) {
            for (int items : new int[] {0, 1, 2, 3, 4, 60}) {
                FrostHole x = with("321", ".");
                x.sheet(0, form, items);
                for (int i = 0; i < items && i < 6; i++) x.lay(0, form, i, 77);
                int many = Math.min(items, 3);
                due(items + " items", many, x.write(CARD, 0));
                int[] want = {2, 1, 0, 77, 77, 77};
                for (int i = 0; i < items && i < 6; i++) due("item " + i, i < many ? want[i] : 77, x.get(0, form, i));
            }
        }
        says(36, "such CELLS: none, 32");
        FrostHole none = with("", ".");
        none.sheet(0, 0, 5);
        due("empty pane", 0, none.write(CARD, 0));
        FrostHole full = with(pane(4, 8, '1'), ".");
        for (int items : new int[] {31, 32, 33}) {
            full.sheet(0, 0, items);
            due(items + " items", Math.min(items, 32), full.write(HAND, 0));
            due("the 31st", 30, full.get(0, 0, 30));
        }
        due("the 32nd", 31, full.get(0, 0, 31));
        due("the 33rd", 0, full.get(0, 0, 32));
        says(36, "by FIRST, behind all STROKES");
        FrostHole y = with("12", ".");
        y.stroke(CARD, 0);
        y.sheet(1, 2, 2);
        due("one", 1, y.write(SCRAPER, 1));
        due("cell 1", 1, y.get(1, 2, 0));
    }

    // ---- promises 37, 38

    private static void counts() {
        says(37, "0 CELLS .. 8 the number of the latest FINDING (0 before any)");
        FrostHole x = new FrostHole();
        for (int what = 0; what <= 8; what++) due("what " + what, 0, x.count(what));
        due("-1", BAD, x.count(-1));
        due("9", BAD, x.count(9));
        says(37, "the most of each");
        FrostHole y = with(pane(4, 8, '9'), "x".repeat(40));
        for (int tool = 0; tool < 4; tool++) y.tool(tool, 1, 99);
        for (int i = 0; i < 40; i++) y.stroke(i % 4, i % 32);
        for (int i = 0; i < 7; i++) y.car(1, 0);
        y.sheet(0, 0, -1);
        int[] most = {32, 40, 35, 40, 40, 32, 288, 7, 5};
        for (int what = 0; what <= 8; what++) due("what " + what, most[what], y.count(what));
        says(37, "5 those that are done");
        y.tool(CARD, 1, 0);
        due("the card's 8 are not", 24, y.count(5));
        y.tool(GLOVE, 1, 71);
        due("one of the glove's is not", 23, y.count(5));
        says(37, "6 how THICK all CELLS are together at first (not behind STROKES)");
        due("288", 288, y.count(6));
        y.wipe(0);
        due("empty", 0, y.count(6));
        due("strokes stay", 40, y.count(4));
        due("none is done", 0, y.count(5));
    }

    private static List<Long> digested(FrostHole x) {
        List<Long> row = new ArrayList<>();
        for (int what = 0; what <= 7; what++) row.add((long) x.count(what));
        for (int text = 0; text <= 1; text++) row.add((long) x.fault(text));
        row.add((long) x.judged());
        for (int what = 0; what <= 2; what++) row.add((long) x.state(x.count(4), what));
        for (int tool = 0; tool < 4; tool++) {
            row.add((long) x.left(tool));
            row.add((long) x.all(tool));
            for (int i = -1; i <= 1; i++) row.add((long) x.first(tool, i));
            for (int what = 0; what <= 1; what++) row.add((long) x.stop(tool, 1, 3, what));
            for (int what = 0; what <= 1; what++) row.add((long) x.warm(20, tool, what));
            for (int what = 0; what <= 1; what++) row.add(x.tonight(6, 1, 0, tool, what));
        }
        for (int stretch = 0; stretch < x.count(1); stretch++) {
            row.add((long) x.risk(stretch));
            row.add((long) x.bend(stretch, 30, 2));
        }
        row.add((long) x.melts(30, 6, 5));
        for (int what = 0; what <= 1; what++) row.add((long) x.again(3, 4, 5, what));
        row.add((long) x.cover(8, 60, 4, 90));
        for (int i = -1; i <= 1; i++) row.add((long) x.lent(i));
        row.add((long) x.faced());
        return row;
    }

    /** By whole numbers without a bound, cut to a long at the end alone. */
    private static long wrapped(List<Long> row) {
        BigInteger h = BigInteger.valueOf(17);
        for (long value : row) h = h.multiply(BigInteger.valueOf(31)).add(BigInteger.valueOf(value));
        return h.longValue();
    }

    private static void digests() {
        says(38, "as longs that wrap");
        FrostHole empty = new FrostHole();
        due("empty", wrapped(digested(empty)), empty.digest());
        due("empty, as a number", -1467322435352364213L, empty.digest());
        FrostHole ill = with("12;", ".?");
        due("faults", wrapped(digested(ill)), ill.digest());
        FrostHole full = with(pane(4, 8, '9'), "sx.lr".repeat(8));
        for (int kind = 0; kind < 5; kind++) for (int cell = 0; cell < 32; cell += 5) full.looks(kind, cell, 9);
        for (int i = 0; i < 40; i++) full.stroke(i % 4, (3 * i) % 32);
        for (int i = 0; i < 7; i++) full.car(9999 - i, 0);
        due("full", wrapped(digested(full)), full.digest());
        says(38, "it tells of count() 0 to 7, not of 8, nor of SHEETS");
        FrostHole x = with("12", ".");
        long before = x.digest();
        x.sheet(0, 0, 5);
        x.lay(0, 0, 0, 5);
        x.lay(0, 1, 0, 5);
        due("the same", before, x.digest());
        says(38, "risk() and bend() of stretches: none without a road");
        FrostHole none = with("12", "");
        FrostHole one = with("12", ".");
        due("no stretch", wrapped(digested(none)), none.digest());
        due("one", wrapped(digested(one)), one.digest());
        due("two values more", digested(none).size() + 2, digested(one).size());
        says(38, "digest() changes nothing");
        due("twice", full.digest(), full.digest());
    }

    /** Objects that stand just at a bound of what digest() asks, so that any other number asked there shows. */
    private static void digestArguments() {
        says(38, "stop(it, 1, 3, 0 and 1)");
        // By the scraper a THICK of 1 costs 2: a part of 1 is worth that with v = 3, not with v = 2.
        digestIs("1 by 1", with("1", "."));
        for (int looks = 1; looks <= 9; looks++) {
            FrostHole x = with("9876;5432", ".");
            for (int cell = 0; cell < 16; cell++) x.looks(0, cell, looks);
            digestIs("looks " + looks, x);
        }
        says(38, "warm(20, it, 0 and 1)");
        for (String told : new String[] {"1", "9", "999", "98765432", "22;22"}) digestIs(told, with(told, ""));
        says(38, "tonight(6, 1, 0, it), above, below");
        for (int cells = 1; cells <= 8; cells++) digestIs(cells + " cells", with("0".repeat(cells), ""));
        says(38, "bend(it, 30, 2)");
        for (int risk : new int[] {10, 11, 14, 15, 16, 17, 29, 30, 31}) {
            FrostHole x = with("1111", "sx");
            for (int cell = 0; cell < 4; cell++) x.looks(3, cell, Math.max(0, Math.min(9, risk - 9 * cell)));
            due("the risk that is meant", risk, x.risk(0));
            digestIs("risk " + risk, x);
        }
        says(38, "melts(30, 6, 5)");
        for (String told : new String[] {"3", "4", "33333", "333333", "3333", "44444", "6633"}) digestIs(told, with(told, ""));
        says(38, "cover(8, 60, 4, 90)");
        // It costs 1320 sixteenths; TONIGHT is 64 sixteenths for each of CELLS times SECONDS: 1280, 1344.
        FrostHole less = with("0000", "");
        due("20: not worth it", 0, less.cover(8, 60, 4, 90));
        digestIs("20", less);
        FrostHole more = with("000", "");
        more.tool(CARD, 0, 7);
        due("21: worth it", 1, more.cover(8, 60, 4, 90));
        digestIs("21", more);
        says(38, "first(it, NONE to 1), lent(NONE to 1)");
        for (int many = 0; many <= 3; many++) {
            FrostHole x = with("32" + "1".repeat(many), ".");
            for (int car = 0; car < many; car++) x.car(9 - car, 3);
            digestIs(many + " of them", x);
        }
    }

    private static void digestIs(String what, FrostHole x) {
        due(what, wrapped(digested(x)), x.digest());
    }

    private static void lastCall() {
        says(1, "An object is used for at most 512 calls: the 512th is answered");
        FrostHole x = new FrostHole();
        for (int call = 1; call <= 510; call += 2) {
            due("call " + call, 1, x.type(0, '5'));
            due("call " + (call + 1), 0, x.undo(0));
        }
        due("call 511", 1, x.type(0, '5'));
        due("call 512", 5, x.thick(0, 0));
    }

    public static void main(String[] args) {
        newObject(); typing(); undoing(); paneShape(); paneRows(); signs(); faultyTexts();
        toolBounds(); looksBounds(); reading(); strokeBounds();
        doneOrNot(); judgedAndThick(); states(); risks();
        allSeconds(); firstOrder(); stopping();
        warmth(); water(); cups(); breath();
        nights(); covers();
        streetBounds(); lentOrder(); facedWay(); bends();
        sheetSizes(); bits(); copying(); writing();
        counts(); digests(); digestArguments(); lastCall();
        System.out.println(wrong == 0 ? "the edges of " + SENTENCES.size() + " sentences hold" : wrong + " answers are not as due");
        if (wrong != 0) System.exit(1);
    }
}
