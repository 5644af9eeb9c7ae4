import java.util.ArrayList;
import java.util.List;
import java.util.function.BiConsumer;
import java.util.function.Supplier;
import java.util.function.ToLongBiFunction;
import java.util.function.ToLongFunction;

/**
 * Each refusal of each act, on both sides of each bound and in the order told, and that it changes
 * nothing (a finding nothing but count() 8). What an object holds is seen by asking it all that it
 * answers; a twin of it, made by the same calls, is asked the same behind the refused call. No object
 * is used for more than 512 calls, so all that there is to ask is split among several pairs of twins.
 */
public final class FrostHoleRefusals {
    private static final int NONE = -1, BAD = -2, NOT = -3, FULL = -4;
    private static final int NULL = -11, INDEX = -12, CAST = -13, STORE = -14, SIZE = -15;
    private static final int MIN = Integer.MIN_VALUE, MAX = Integer.MAX_VALUE;
    private static int wrong = 0;
    private static int checks = 0;

    private static void due(String what, long want, long got) {
        checks++;
        if (got != want) {
            wrong++;
            if (wrong <= 40) System.out.println(what + " answered " + got + ", due is " + want);
        }
    }

    // ---- objects from which calls are refused

    private static void tell(FrostHole x, int text, String bytes) {
        for (char b : bytes.toCharArray()) x.type(text, b);
    }

    /** Nothing is told yet, so all that is taken back is refused. */
    private static FrostHole fresh() {
        return new FrostHole();
    }

    /** 12 cells, 6 stretches, 5 strokes, 3 cars; sheets of each form and a lost one; INDEX was the latest finding. */
    private static FrostHole some() {
        FrostHole x = new FrostHole();
        tell(x, 0, "3051;7142;0193");
        tell(x, 1, "..lsxr");
        for (int kind = 0; kind < 5; kind++) x.looks(kind, 8 + kind, 3 + kind);
        x.looks(0, 0, 9);
        x.tool(0, 1, 12);
        x.tool(1, 0, 60);
        x.stroke(0, 0);
        x.stroke(0, 1);
        x.stroke(1, 8);
        x.stroke(2, 31);
        x.stroke(3, 18);
        x.car(30, 10);
        x.car(10, 20);
        x.car(25, 20);
        for (int s = 0; s < 3; s++) {
            x.sheet(s, s, 5 - s);
            for (int i = 0; i < 5 - s; i++) x.lay(s, s, i, 3 * s + i + 1);
        }
        x.lay(0, 0, 9, 9);
        return x;
    }

    /** Texts, strokes, street and sheets are full. */
    private static FrostHole full() {
        FrostHole x = new FrostHole();
        tell(x, 0, "98765432;98765432;12345678;11111111");
        tell(x, 1, ".lrsx.lrsx.lrsx.lrsx.lrsx.lrsx.lrsx.lrsx");
        for (int kind = 0; kind < 5; kind++) x.looks(kind, 24 + kind, 9 - kind);
        for (int i = 0; i < 40; i++) x.stroke(i % 4, 31 - i % 32);
        for (int i = 0; i < 7; i++) x.car(10 + 3 * i, 70 - 7 * i);
        for (int s = 0; s < 4; s++) {
            int form = Math.min(s, 2);
            x.sheet(s, form, 60);
            x.lay(s, form, 0, 4);
            x.lay(s, form, 59, 100 + s);
        }
        return x;
    }

    // ---- all that is seen of an object

    /** What the strokes come to, by every number of them. */
    private static void seeMorning(FrostHole x, List<Long> seen) {
        for (int what = 0; what <= 7; what++) seen.add((long) x.count(what));
        seen.add(x.digest());
        seen.add((long) x.judged());
        int strokes = x.count(4);
        for (int k = 0; k <= strokes; k++) {
            for (int what = 0; what <= 2; what++) seen.add((long) x.state(k, what));
        }
        for (int cell = 0; cell < 32; cell++) seen.add((long) x.thick(strokes, cell));
        for (int tool = 0; tool < 4; tool++) seen.add((long) x.left(tool));
        for (int stretch = 0; stretch < 40; stretch++) seen.add((long) x.risk(stretch));
        while (x.back() > 0) seen.add((long) x.judged());
        seen.add((long) x.count(4));
    }

    /** The texts, byte by byte as they are undone. */
    private static void seeTexts(FrostHole x, List<Long> seen) {
        for (int text = 0; text < 2; text++) {
            int left = x.count(2 + text);
            while (left >= 0) {
                seen.add((long) x.fault(text));
                seen.add((long) x.count(text == 0 ? 6 : 1));
                left = x.undo(text);
                seen.add((long) left);
            }
        }
    }

    /** Tools and looks by what they were, and the street car by car. */
    private static void seeSettings(FrostHole x, List<Long> seen) {
        for (int i = -1; i <= 6; i++) seen.add((long) x.lent(i));
        while (x.gone() > 0) seen.add((long) x.lent(NONE));
        seen.add((long) x.count(7));
        for (int tool = 0; tool < 4; tool++) {
            seen.add((long) x.tool(tool, 0, 1));
            seen.add((long) x.tool(tool, 1, 0));
        }
        for (int kind = 0; kind < 5; kind++) {
            for (int cell = 0; cell < 32; cell++) seen.add((long) x.looks(kind, cell, 0));
        }
    }

    /** The items of all sheets, each sheet's form, and how many items it has. */
    private static void seeSheets(FrostHole x, List<Long> seen) {
        for (int s = 0; s < 4; s++) {
            for (int form = 0; form < 3; form++) seen.add((long) x.lay(s, form, -1, 0));
            for (int i = 0; i < 60; i++) seen.add((long) x.get(s, Math.min(s, 2), i));
            seen.add((long) x.lose(s));
        }
    }

    private static final List<BiConsumer<FrostHole, List<Long>>> LOOKERS = List.of(
        FrostHoleRefusals::seeMorning, FrostHoleRefusals::seeTexts,
        FrostHoleRefusals::seeSettings, FrostHoleRefusals::seeSheets);

    private static List<Long> seenBy(BiConsumer<FrostHole, List<Long>> looker, FrostHole x) {
        List<Long> seen = new ArrayList<>();
        looker.accept(x, seen);
        return seen;
    }

    /** An object that can be made again and again, and what is seen of it when it is left alone. */
    private static final class Base {
        final String name;
        final Supplier<FrostHole> maker;
        final List<List<Long>> alone = new ArrayList<>();
        final int finding;

        Base(String name, Supplier<FrostHole> maker) {
            this.name = name;
            this.maker = maker;
            this.finding = maker.get().count(8);
            for (BiConsumer<FrostHole, List<Long>> looker : LOOKERS) alone.add(seenBy(looker, maker.get()));
        }

        /** The call answers so, count(8) is so behind it, and all else is as if it had not been made. */
        void changesNothing(String what, long want, int findingThen, ToLongFunction<FrostHole> call) {
            String label = name + ": " + what;
            FrostHole x = maker.get();
            due(label, want, call.applyAsLong(x));
            due(label + ", count(8) behind it", findingThen, x.count(8));
            for (int i = 0; i < LOOKERS.size(); i++) {
                FrostHole y = maker.get();
                call.applyAsLong(y);
                boolean same = alone.get(i).equals(seenBy(LOOKERS.get(i), y));
                due(label + ", nothing else is changed (" + i + ")", 1, same ? 1 : 0);
            }
        }

        void refuses(String what, long want, ToLongFunction<FrostHole> call) {
            changesNothing(what, want, finding, call);
        }

        /** A finding is told by -10 less its number. */
        void finds(String what, int want, ToLongFunction<FrostHole> call) {
            changesNothing(what, want, -10 - want, call);
        }

        /** A finding of get() is told by count(8) alone. */
        void findsUnseen(String what, int found, ToLongFunction<FrostHole> call) {
            changesNothing(what, MIN, -10 - found, call);
        }
    }

    private static final Base FRESH = new Base("a new object", FrostHoleRefusals::fresh);
    private static final Base SOME = new Base("some of all", FrostHoleRefusals::some);
    private static final Base WHOLE = new Base("a full object", FrostHoleRefusals::full);

    // ---- BAD: each argument's bounds, by a table

    /** An act, and for each of its arguments the least and the most that is not BAD. */
    private static final class Act {
        final String name;
        final long bad;
        final boolean asks;
        final int[][] bounds;
        final ToLongBiFunction<FrostHole, int[]> call;

        Act(String name, long bad, boolean asks, int[][] bounds, ToLongBiFunction<FrostHole, int[]> call) {
            this.name = name;
            this.bad = bad;
            this.asks = asks;
            this.bounds = bounds;
            this.call = call;
        }
    }

    private static final List<Act> ACTS = new ArrayList<>();

    private static void changing(String name, ToLongBiFunction<FrostHole, int[]> call, int[]... bounds) {
        ACTS.add(new Act(name, BAD, false, bounds, call));
    }

    private static void asking(String name, ToLongBiFunction<FrostHole, int[]> call, int[]... bounds) {
        ACTS.add(new Act(name, BAD, true, bounds, call));
    }

    private static int[] from(int least, int most) {
        return new int[] {least, most};
    }

    /** All numbers: none of them is BAD. */
    private static int[] any() {
        return from(MIN, MAX);
    }

    private static void listActs() {
        changing("type", (x, a) -> x.type(a[0], a[1]), from(0, 1), from(0, 255));
        changing("wipe", (x, a) -> x.wipe(a[0]), from(0, 1));
        changing("undo", (x, a) -> x.undo(a[0]), from(0, 1));
        asking("fault", (x, a) -> x.fault(a[0]), from(0, 1));
        changing("tool, SECONDS", (x, a) -> x.tool(a[0], 0, a[1]), from(0, 3), from(1, 60));
        changing("tool, HOLDS", (x, a) -> x.tool(a[0], 1, a[1]), from(0, 3), from(0, 99));
        changing("tool, what", (x, a) -> x.tool(2, a[0], 30), from(0, 1));
        changing("looks", (x, a) -> x.looks(a[0], a[1], a[2]), from(0, 4), from(0, 31), from(0, 9));
        changing("read", (x, a) -> x.read(a[0], a[1]), from(0, 3), from(0, 4));
        changing("stroke", (x, a) -> x.stroke(a[0], a[1]), from(0, 3), from(0, 31));
        asking("left", (x, a) -> x.left(a[0]), from(0, 3));
        asking("all", (x, a) -> x.all(a[0]), from(0, 3));
        asking("first", (x, a) -> x.first(a[0], a[1]), from(0, 3), from(NONE, 31));
        asking("stop", (x, a) -> x.stop(a[0], a[1], a[2], a[3]), from(0, 3), from(0, 99), from(0, 99), from(0, 1));
        asking("warm", (x, a) -> x.warm(a[0], a[1], a[2]), from(1, 60), from(0, 3), from(0, 1));
        asking("crack", (x, a) -> x.crack(a[0], a[1]), from(NONE, 99), from(0, 30));
        asking("melts", (x, a) -> x.melts(a[0], a[1], a[2]), from(0, 99), from(0, 30), from(0, 99));
        asking("again", (x, a) -> x.again(a[0], a[1], a[2], a[3]), from(1, 5), from(0, 9), from(0, 60), from(0, 1));
        asking("night", (x, a) -> x.night(a[0], a[1], a[2]), from(0, 1), from(0, 3), from(0, 1));
        ACTS.add(new Act("tonight", Long.MIN_VALUE + 2, true,
            new int[][] {from(0, 16), from(0, 3), from(0, 1), from(0, 3), from(0, 1)},
            (x, a) -> x.tonight(a[0], a[1], a[2], a[3], a[4])));
        asking("cover", (x, a) -> x.cover(a[0], a[1], a[2], a[3]), from(0, 16), from(0, 9999), from(0, 16), from(0, 9999));
        changing("car", (x, a) -> x.car(a[0], a[1]), from(1, 9999), from(0, 9999));
        asking("lent", (x, a) -> x.lent(a[0]), from(NONE, 6));
        changing("sheet", (x, a) -> x.sheet(a[0], a[1], a[2]), from(0, 3), from(0, 2), from(MIN, 60));
        changing("lose", (x, a) -> x.lose(a[0]), from(0, 3));
        changing("lay", (x, a) -> x.lay(a[0], a[1], a[2], a[3]), from(0, 3), from(0, 2), any(), any());
        ACTS.add(new Act("get", MIN, false, new int[][] {from(0, 3), from(0, 2), any()},
            (x, a) -> x.get(a[0], a[1], a[2])));
        changing("copy", (x, a) -> x.copy(a[0], a[1], a[2], a[3], a[4]), from(0, 3), any(), from(0, 3), any(), any());
        changing("write", (x, a) -> x.write(a[0], a[1]), from(0, 3), from(0, 3));
        asking("count", (x, a) -> x.count(a[0]), from(0, 8));
    }

    /** Bounds that hang on what has been told: strokes and stretches. */
    private static List<Act> actsOver(int strokes, int stretches) {
        List<Act> rows = new ArrayList<>();
        rows.add(new Act("state", BAD, true, new int[][] {from(0, strokes), from(0, 2)}, (x, a) -> x.state(a[0], a[1])));
        rows.add(new Act("thick, cell 0", BAD, true, new int[][] {from(0, strokes)}, (x, a) -> x.thick(a[0], 0)));
        rows.add(new Act("risk", BAD, true, new int[][] {from(0, stretches - 1)}, (x, a) -> x.risk(a[0])));
        rows.add(new Act("bend", BAD, true, new int[][] {from(0, stretches - 1), from(0, 999), from(0, 99)},
            (x, a) -> x.bend(a[0], a[1], a[2])));
        return rows;
    }

    private static String told(Act act, int[] a) {
        return act.name + java.util.Arrays.toString(a);
    }

    /** Each argument by itself is just beyond its bounds and far beyond, whichever bounds the others are at. */
    private static void boundsOf(Base base, Act act) {
        int n = act.bounds.length;
        for (int corner = 0; corner < 1 << n; corner++) {
            int[] a = new int[n];
            for (int i = 0; i < n; i++) a[i] = act.bounds[i][corner >> i & 1];
            cornerIsWell(base, act, a);
            for (int i = 0; i < n; i++) {
                int least = act.bounds[i][0], most = act.bounds[i][1];
                if (least > MIN) {
                    outside(base, act, a, i, least - 1);
                    outside(base, act, a, i, MIN);
                }
                if (most < MAX) {
                    outside(base, act, a, i, most + 1);
                    outside(base, act, a, i, MAX);
                }
            }
        }
    }

    private static void outside(Base base, Act act, int[] corner, int i, int v) {
        int[] a = corner.clone();
        a[i] = v;
        base.refuses(told(act, a), act.bad, x -> act.call.applyAsLong(x, a));
    }

    /** The last numbers that are as told are not BAD, and asking changes nothing. */
    private static void cornerIsWell(Base base, Act act, int[] a) {
        FrostHole x = base.maker.get();
        long got = act.call.applyAsLong(x, a);
        if (act.name.equals("get")) return; // Its findings bear the same number as BAD.
        due(base.name + ": " + told(act, a) + " is not BAD, which it", 1, got != act.bad ? 1 : 0);
        if (act.asks) base.refuses(told(act, a), got, y -> act.call.applyAsLong(y, a));
    }

    private static void bounds() {
        listActs();
        for (Act act : ACTS) {
            boundsOf(FRESH, act);
            boundsOf(SOME, act);
            boundsOf(WHOLE, act);
        }
        for (Act act : actsOver(5, 6)) boundsOf(SOME, act);
        for (Act act : actsOver(40, 40)) boundsOf(WHOLE, act);
    }

    /** A cell that there is not: right of the row, below the rows, outside 0 to 31; without a pane each. */
    private static void cellsThatThereAreNot() {
        for (int cell = -1; cell <= 32; cell++) {
            int c = cell;
            boolean there = c >= 0 && c < 24 && c % 8 < 4;
            if (!there) SOME.refuses("thick(0, " + c + ")", BAD, x -> x.thick(0, c));
            due("thick(0, " + c + ") is BAD, which it", there ? 0 : 1, SOME.maker.get().thick(0, c) == BAD ? 1 : 0);
            FRESH.refuses("thick(0, " + c + ")", BAD, x -> x.thick(0, c));
            boolean whole = c >= 0 && c < 32;
            due("full: thick(0, " + c + ") is BAD, which it", whole ? 0 : 1, WHOLE.maker.get().thick(0, c) == BAD ? 1 : 0);
        }
        SOME.refuses("thick, cell at the ends of int", BAD, x -> x.thick(0, MIN) + x.thick(0, MAX) - BAD);
    }

    /** Where nothing has been told there is no stretch, and no stroke but 0 of them. */
    private static void nothingToAsk() {
        FRESH.refuses("risk(0)", BAD, x -> x.risk(0));
        FRESH.refuses("risk(-1)", BAD, x -> x.risk(-1));
        FRESH.refuses("bend(0, 0, 0)", BAD, x -> x.bend(0, 0, 0));
        FRESH.refuses("state(0, 0)", 0, x -> x.state(0, 0));
        FRESH.refuses("state(1, 0)", BAD, x -> x.state(1, 0));
        FRESH.refuses("state(-1, 0)", BAD, x -> x.state(-1, 0));
        Base faulty = new Base("a road with a fault", () -> {
            FrostHole x = some();
            x.type(1, '?');
            return x;
        });
        faulty.refuses("risk(0)", BAD, x -> x.risk(0));
        faulty.refuses("bend(0, 0, 0)", BAD, x -> x.bend(0, 0, 0));
    }

    // ---- NOT, FULL

    private static void notAndFull() {
        FRESH.refuses("undo(0), empty", NOT, x -> x.undo(0));
        FRESH.refuses("undo(1), empty", NOT, x -> x.undo(1));
        FRESH.refuses("undo(2), BAD ahead of NOT", BAD, x -> x.undo(2));
        FRESH.refuses("back(), no stroke", NOT, FrostHole::back);
        FRESH.refuses("gone(), no car", NOT, FrostHole::gone);
        SOME.refuses("melts, cracks by one degree", NOT, x -> x.melts(11, 30, 5));
        SOME.refuses("melts, cracks with no cup", NOT, x -> x.melts(99, 30, 0));
        SOME.refuses("melts, BAD k ahead of NOT", BAD, x -> x.melts(41, 0, 100));
        SOME.refuses("melts, BAD w ahead of NOT", BAD, x -> x.melts(100, 0, 1));
        SOME.refuses("melts, BAD d ahead of NOT", BAD, x -> x.melts(99, 31, 1));
        FRESH.refuses("melts, cracks an empty pane", NOT, x -> x.melts(41, 0, 5));
        WHOLE.refuses("type(0, 49)", FULL, x -> x.type(0, 49));
        WHOLE.refuses("type(1, 46)", FULL, x -> x.type(1, 46));
        WHOLE.refuses("type(0, 256), BAD ahead of FULL", BAD, x -> x.type(0, 256));
        WHOLE.refuses("type(1, -1), BAD ahead of FULL", BAD, x -> x.type(1, -1));
        WHOLE.refuses("type(2, 49), BAD ahead of FULL", BAD, x -> x.type(2, 49));
        WHOLE.refuses("stroke(0, 0)", FULL, x -> x.stroke(0, 0));
        WHOLE.refuses("stroke(4, 0), BAD ahead of FULL", BAD, x -> x.stroke(4, 0));
        WHOLE.refuses("stroke(0, 32), BAD ahead of FULL", BAD, x -> x.stroke(0, 32));
        WHOLE.refuses("car(1, 0)", FULL, x -> x.car(1, 0));
        WHOLE.refuses("car(0, 0), BAD ahead of FULL", BAD, x -> x.car(0, 0));
        WHOLE.refuses("car(1, 10000), BAD ahead of FULL", BAD, x -> x.car(1, 10000));
    }

    // ---- findings, each ahead of those told behind it

    private static void lostSheets() {
        for (int s = 0; s < 4; s++) {
            int lost = s;
            FRESH.finds("lose(" + s + ")", NULL, x -> x.lose(lost));
            FRESH.finds("read(" + s + ", 0)", NULL, x -> x.read(lost, 0));
            FRESH.finds("write(0, " + s + ")", NULL, x -> x.write(0, lost));
            FRESH.finds("lay(" + s + ", 0, 0, 0)", NULL, x -> x.lay(lost, 0, 0, 0));
            FRESH.findsUnseen("get(" + s + ", 0, 0)", NULL, x -> x.get(lost, 0, 0));
            FRESH.finds("copy from and to " + s, NULL, x -> x.copy(lost, 0, lost, 0, 0));
        }
        SOME.finds("lose(3)", NULL, x -> x.lose(3));
        SOME.finds("read(3, 4)", NULL, x -> x.read(3, 4));
        SOME.refuses("read(3, 5), BAD ahead of NULL", BAD, x -> x.read(3, 5));
        SOME.finds("write(3, 3)", NULL, x -> x.write(3, 3));
        SOME.refuses("write(4, 3), BAD ahead of NULL", BAD, x -> x.write(4, 3));
        Base again = new Base("a sheet lost again", () -> {
            FrostHole x = some();
            x.lose(2);
            return x;
        });
        again.finds("lose(2)", NULL, x -> x.lose(2));
        again.finds("lay(2, 2, 0, 1)", NULL, x -> x.lay(2, 2, 0, 1));
        again.findsUnseen("get(2, 2, 0)", NULL, x -> x.get(2, 2, 0));
        again.finds("copy(2, 0, 2, 0, 1)", NULL, x -> x.copy(2, 0, 2, 0, 1));
    }

    private static void sizes() {
        for (int s = 0; s < 4; s++) {
            for (int form = 0; form < 3; form++) {
                int sheet = s, of = form;
                SOME.finds("sheet(" + s + ", " + form + ", -1)", SIZE, x -> x.sheet(sheet, of, -1));
                SOME.finds("sheet(" + s + ", " + form + ", MIN)", SIZE, x -> x.sheet(sheet, of, MIN));
            }
        }
        SOME.refuses("sheet(4, 0, -1), BAD ahead of SIZE", BAD, x -> x.sheet(4, 0, -1));
        SOME.refuses("sheet(-1, 0, -1), BAD ahead of SIZE", BAD, x -> x.sheet(-1, 0, -1));
        SOME.refuses("sheet(0, 3, -1), BAD ahead of SIZE", BAD, x -> x.sheet(0, 3, -1));
        SOME.refuses("sheet(0, -1, -1), BAD ahead of SIZE", BAD, x -> x.sheet(0, -1, -1));
        SOME.refuses("sheet(3, 0, 61), above 60", BAD, x -> x.sheet(3, 0, 61));
    }

    private static void items() {
        SOME.refuses("lay(3, 3, 0, 0), BAD ahead of NULL", BAD, x -> x.lay(3, 3, 0, 0));
        SOME.refuses("get(3, 3, 0), BAD ahead of NULL", MIN, x -> x.get(3, 3, 0));
        SOME.finds("lay(3, 1, 99, 0), NULL ahead of CAST and INDEX", NULL, x -> x.lay(3, 1, 99, 0));
        SOME.findsUnseen("get(3, 1, 99), NULL ahead of CAST and INDEX", NULL, x -> x.get(3, 1, 99));
        for (int s = 0; s < 3; s++) {
            int sheet = s, size = 5 - s;
            for (int form = 0; form < 3; form++) {
                int of = form;
                if (form == s) continue;
                SOME.finds("lay(" + s + ", " + form + ", 0, 7)", CAST, x -> x.lay(sheet, of, 0, 7));
                SOME.finds("lay(" + s + ", " + form + ", 60, 7), CAST ahead of INDEX", CAST, x -> x.lay(sheet, of, 60, 7));
                SOME.findsUnseen("get(" + s + ", " + form + ", 0)", CAST, x -> x.get(sheet, of, 0));
                SOME.findsUnseen("get(" + s + ", " + form + ", -1), CAST ahead of INDEX", CAST, x -> x.get(sheet, of, -1));
            }
            for (int i : new int[] {-1, size, 59, 60, MIN, MAX}) {
                SOME.finds("lay(" + s + ", .., " + i + ", 7)", INDEX, x -> x.lay(sheet, sheet, i, 7));
                SOME.findsUnseen("get(" + s + ", .., " + i + ")", INDEX, x -> x.get(sheet, sheet, i));
            }
            due("lay, item 0 of " + size, 1, some().lay(s, s, 0, 7));
            due("lay, last item of " + size, 1, some().lay(s, s, size - 1, 7));
            due("get, item 0 of " + size, 3 * s + 1, some().get(s, s, 0));
            due("get, last item of " + size, 3 * s + size, some().get(s, s, size - 1));
        }
        Base none = new Base("a sheet without items", () -> {
            FrostHole x = some();
            x.sheet(2, 2, 0);
            return x;
        });
        none.finds("lay(2, 2, 0, 1)", INDEX, x -> x.lay(2, 2, 0, 1));
        none.findsUnseen("get(2, 2, 0)", INDEX, x -> x.get(2, 2, 0));
        for (int i : new int[] {-1, 60, MIN, MAX}) {
            WHOLE.finds("lay(0, 0, " + i + ", 1)", INDEX, x -> x.lay(0, 0, i, 1));
            WHOLE.findsUnseen("get(3, 2, " + i + ")", INDEX, x -> x.get(3, 2, i));
        }
    }

    private static void copies() {
        SOME.refuses("copy(4, ..), BAD ahead of NULL", BAD, x -> x.copy(4, 0, 3, 0, 1));
        SOME.refuses("copy(3, .. 4), BAD ahead of NULL", BAD, x -> x.copy(3, 0, 4, 0, 1));
        SOME.refuses("copy(0, 99, 4, ..), BAD ahead of INDEX", BAD, x -> x.copy(0, 99, 4, 0, 1));
        SOME.finds("copy from a lost one, NULL ahead of STORE", NULL, x -> x.copy(3, 0, 0, 0, 1));
        SOME.finds("copy to a lost one, NULL ahead of STORE", NULL, x -> x.copy(0, 0, 3, 0, 1));
        SOME.finds("copy from a lost one, NULL ahead of INDEX", NULL, x -> x.copy(3, -1, 0, 99, -1));
        SOME.finds("copy to a lost one, NULL ahead of INDEX", NULL, x -> x.copy(0, -1, 3, 99, -1));
        for (int s = 0; s < 3; s++) {
            for (int t = 0; t < 3; t++) {
                int a = s, b = t;
                if (s == t) continue;
                SOME.finds("copy " + s + " to " + t, STORE, x -> x.copy(a, 0, b, 0, 1));
                SOME.finds("copy none of " + s + " to " + t, STORE, x -> x.copy(a, 0, b, 0, 0));
                SOME.finds("copy " + s + " to " + t + ", STORE ahead of INDEX", STORE, x -> x.copy(a, -1, b, -1, -1));
            }
        }
        // Sheets 2 and 3 of the full object are both ints: 60 items each.
        int[][] beyond = {
            {-1, 0, 1}, {0, -1, 1}, {0, 0, -1}, {0, 0, 61}, {1, 0, 60}, {0, 1, 60}, {60, 0, 1}, {0, 60, 1},
            {61, 0, 0}, {0, 61, 0}, {-1, 0, 0}, {0, -1, 0}, {MIN, 0, 1}, {0, MIN, 1}, {0, 0, MIN}, {MAX, 0, 1}, {0, MAX, 1},
            {0, 0, MAX}, {MAX, 0, MAX}, {0, MAX, MAX}, {1, 1, MAX}, {MIN, MIN, MIN}, {MAX, MAX, MAX}, {-1, -1, -1},
            {MAX, 0, MIN}, {-1, 1, 61}, {MAX, 0, 0}, {0, MAX, 0}};
        for (int[] a : beyond) {
            String told = "copy(2, " + a[0] + ", 3, " + a[1] + ", " + a[2] + ")";
            WHOLE.finds(told, INDEX, x -> x.copy(2, a[0], 3, a[1], a[2]));
            WHOLE.finds(told + " within sheet 2", INDEX, x -> x.copy(2, a[0], 2, a[1], a[2]));
        }
        int[][] well = {{0, 0, 60}, {59, 59, 1}, {60, 60, 0}, {0, 60, 0}, {60, 0, 0}, {0, 0, 0}, {0, 59, 1}, {59, 0, 1}, {1, 0, 59}};
        for (int[] a : well) due("copy " + java.util.Arrays.toString(a), 1, full().copy(2, a[0], 3, a[1], a[2]));
    }

    /** The latest finding stays through all that is well, and through BAD, NOT and FULL. */
    private static void latestFinding() {
        FrostHole x = full();
        due("before any", 0, x.count(8));
        x.type(0, 256);
        x.type(0, 48);
        x.melts(99, 30, 1);
        x.get(9, 0, 0);
        due("BAD, FULL, NOT aside", 0, x.count(8));
        due("SIZE", SIZE, x.sheet(0, 0, -1));
        due("5", 5, x.count(8));
        due("STORE", STORE, x.copy(0, 0, 1, 0, 1));
        due("4", 4, x.count(8));
        due("CAST", CAST, x.lay(0, 1, 0, 0));
        due("3", 3, x.count(8));
        due("INDEX", INDEX, x.lay(0, 0, 60, 0));
        due("2", 2, x.count(8));
        due("lost", 60, x.lose(0));
        due("still 2", 2, x.count(8));
        due("NULL", NULL, x.lose(0));
        due("1", 1, x.count(8));
        due("anew", 60, x.sheet(0, 0, 60));
        x.type(0, 256);
        x.wipe(0);
        x.lay(0, 0, 0, 1);
        due("still 1", 1, x.count(8));
    }

    public static void main(String[] args) {
        bounds();
        cellsThatThereAreNot();
        nothingToAsk();
        notAndFull();
        lostSheets();
        sizes();
        items();
        copies();
        latestFinding();
        System.out.println(wrong == 0 ? "all " + checks + " refusals are as due" : wrong + " answers are not as due");
        if (wrong != 0) System.exit(1);
    }
}
