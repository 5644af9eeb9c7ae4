/** Each promise by hand: ordinary inputs, the edges that the document names, and wrong inputs. */
public final class FrostHolePromises {
    private static final int NULL = -11, INDEX = -12, CAST = -13, STORE = -14, SIZE = -15;
    private static final int NONE = -1, BAD = -2, NOT = -3, FULL = -4;
    private static final int LEAST = Integer.MIN_VALUE;
    private static int wrong = 0;
    private static int promise = 0;

    private static void due(String what, long want, long got) {
        if (got != want) {
            wrong++;
            System.out.println("promise " + promise + ": " + what + " answered " + got + ", due is " + want);
        }
    }

    private static void tell(FrostHole x, int text, String bytes) {
        for (int i = 0; i < bytes.length(); i++) {
            x.type(text, bytes.charAt(i));
        }
    }

    private static FrostHole with(String pane, String road) {
        FrostHole x = new FrostHole();
        tell(x, 0, pane);
        tell(x, 1, road);
        return x;
    }

    private static int faultOf(int text, String bytes) {
        FrostHole x = new FrostHole();
        tell(x, text, bytes);
        return x.fault(text);
    }

    public static void main(String[] args) {
        p1(); p2(); p3(); p4(); p5(); p6(); p7(); p8(); p9(); p10();
        p11(); p12(); p13(); p14(); p15(); p16(); p17(); p18(); p19(); p20();
        p21(); p22(); p23(); p24(); p25(); p26(); p27(); p28(); p29(); p30();
        p31(); p32(); p33(); p34(); p35(); p36(); p37(); p38();
        System.out.println(wrong == 0 ? "all promises hold" : wrong + " answers are not as due");
        if (wrong != 0) {
            System.exit(1);
        }
    }

    private static void p1() {
        promise = 1;
        FrostHole x = new FrostHole();
        for (int what = 0; what <= 8; what++) {
            due("count " + what, 0, x.count(what));
        }
        for (int s = 0; s < 4; s++) {
            due("lose " + s, NULL, x.lose(s));
        }
        due("finding", 1, x.count(8));
        due("no stroke", NONE, x.judged());
        due("no cell", BAD, x.thick(0, 0));
        due("whole tool", 99, new FrostHole().left(0));
        due("no clear cell", 0, new FrostHole().state(0, 2));
        due("NONE", NONE, FrostHole.NONE);
        due("BAD", BAD, FrostHole.BAD);
        due("NOT", NOT, FrostHole.NOT);
        due("FULL", FULL, FrostHole.FULL);
    }

    private static void p2() {
        promise = 2;
        FrostHole x = new FrostHole();
        due("low text", BAD, x.type(-1, 48));
        due("high text", BAD, x.type(2, 48));
        due("low byte", BAD, x.type(0, -1));
        due("high byte", BAD, x.type(1, 256));
        due("least byte", 1, x.type(0, 0));
        due("most byte", 2, x.type(0, 255));
        for (int n = 3; n <= 35; n++) {
            due("pane byte", n, x.type(0, 49));
        }
        due("pane full", FULL, x.type(0, 49));
        due("BAD ahead of FULL", BAD, x.type(0, 256));
        for (int n = 1; n <= 40; n++) {
            due("road byte", n, x.type(1, 's'));
        }
        due("road full", FULL, x.type(1, 's'));
        due("pane bytes", 35, x.count(2));
        due("road bytes", 40, x.count(3));
        due("stretches", 40, x.count(1));
        due("finding", 0, x.count(8));
    }

    private static void p3() {
        promise = 3;
        FrostHole x = with("12;34", "lx");
        due("low", BAD, x.wipe(-1));
        due("high", BAD, x.wipe(2));
        due("pane", 5, x.wipe(0));
        due("cells", 0, x.count(0));
        due("road stays", 2, x.count(1));
        due("road", 2, x.wipe(1));
        due("empty road", 0, x.wipe(1));
        due("empty pane is well", NONE, x.fault(0));
        due("empty road is well", NONE, x.fault(1));
        tell(x, 0, "9");
        due("anew", 9, x.thick(0, 0));
    }

    private static void p4() {
        promise = 4;
        FrostHole x = with("12;", "l?");
        due("low", BAD, x.undo(-1));
        due("high", BAD, x.undo(2));
        due("pane", 2, x.undo(0));
        due("cells", 2, x.count(0));
        due("road", 1, x.undo(1));
        due("well again", 1, x.count(1));
        due("road to empty", 0, x.undo(1));
        due("road empty", NOT, x.undo(1));
        due("pane stays", 2, x.count(2));
    }

    private static void p5() {
        promise = 5;
        due("low", BAD, new FrostHole().fault(-1));
        due("high", BAD, new FrostHole().fault(2));
        due("empty pane", NONE, faultOf(0, ""));
        due("empty road", NONE, faultOf(1, ""));
        due("one cell", NONE, faultOf(0, "0"));
        due("eight wide", NONE, faultOf(0, "12345678"));
        due("ninth column", 8, faultOf(0, "123456789"));
        due("eight wide ended", 9, faultOf(0, "12345678;"));
        due("whole", NONE, faultOf(0, "12345678;12345678;12345678;12345678"));
        due("; first", 0, faultOf(0, ";"));
        due("; twice", 2, faultOf(0, "1;;"));
        due("; too soon", 5, faultOf(0, "123;1;123"));
        due("end too soon", 5, faultOf(0, "123;1"));
        due("end behind ;", 4, faultOf(0, "123;"));
        due("byte more", 3, faultOf(0, "1;23"));
        due("no figure", 1, faultOf(0, "1/"));
        due("no figure above", 0, faultOf(0, ":"));
        due("fifth row", 8, faultOf(0, "1;2;3;4;5"));
        due("fifth row not begun", 8, faultOf(0, "1;2;3;4;"));
        due("fifth row's ;", 8, faultOf(0, "1;2;3;4;;"));
        due("first of two", 1, faultOf(0, "1a;;"));
        due("all kinds", NONE, faultOf(1, ".lrsx"));
        due("no kind", 3, faultOf(1, ".lr;x?"));
        due("capital", 0, faultOf(1, "L"));
        FrostHole x = with("12;", ".?");
        due("no cells", 0, x.count(0));
        due("no thick", 0, x.count(6));
        due("no stretches", 0, x.count(1));
        due("no cell", BAD, x.thick(0, 0));
    }

    private static void p6() {
        promise = 6;
        FrostHole x = new FrostHole();
        int[] atFirst = {5, 8, 2, 12};
        for (int tool = 0; tool < 4; tool++) {
            due("seconds", atFirst[tool], x.tool(tool, 0, 1));
            due("holds", 99, x.tool(tool, 1, 0));
            due("seconds now", 1, x.tool(tool, 0, 60));
            due("holds now", 0, x.tool(tool, 1, 99));
        }
        due("low tool", BAD, x.tool(-1, 0, 1));
        due("high tool", BAD, x.tool(4, 0, 1));
        due("low what", BAD, x.tool(0, -1, 1));
        due("high what", BAD, x.tool(0, 2, 1));
        due("low seconds", BAD, x.tool(0, 0, 0));
        due("high seconds", BAD, x.tool(0, 0, 61));
        due("low holds", BAD, x.tool(0, 1, -1));
        due("high holds", BAD, x.tool(0, 1, 100));
        due("unchanged seconds", 60, x.tool(0, 0, 3));
        due("unchanged holds", 99, x.tool(0, 1, 3));
    }

    private static void p7() {
        promise = 7;
        FrostHole x = new FrostHole();
        for (int kind = 0; kind < 5; kind++) {
            for (int cell = 0; cell < 32; cell++) {
                due("at first", kind == 0 ? 1 : 0, x.looks(kind, cell, 9));
            }
        }
        due("least", 9, x.looks(4, 31, 0));
        due("was least", 0, x.looks(4, 31, 5));
        due("low kind", BAD, x.looks(-1, 0, 0));
        due("high kind", BAD, x.looks(5, 0, 0));
        due("low cell", BAD, x.looks(0, -1, 0));
        due("high cell", BAD, x.looks(0, 32, 0));
        due("low", BAD, x.looks(0, 0, -1));
        due("high", BAD, x.looks(0, 0, 10));
        due("unchanged", 9, x.looks(0, 0, 1));
    }

    private static void p8() {
        promise = 8;
        FrostHole x = with("11;11", "lr");
        due("low sheet", BAD, x.read(-1, 0));
        due("high sheet", BAD, x.read(4, 0));
        due("low kind", BAD, x.read(0, -1));
        due("high kind", BAD, x.read(0, 5));
        due("no finding", 0, x.count(8));
        due("lost", NULL, x.read(0, 1));
        due("finding", 1, x.count(8));
        x.sheet(0, 2, 0);
        due("no items", 0, x.read(0, 1));
        x.sheet(0, 2, 60);
        for (int i = 0; i < 60; i++) {
            x.lay(0, 2, i, i % 10);
        }
        due("32 at most", 32, x.read(0, 1));
        due("risk by them", 0 + 1 + 8 + 9, x.risk(0));
        due("last cell", 1, x.looks(1, 31, 0));
        x.lay(0, 2, 3, 10);
        due("too high", 3, x.read(0, 2));
        due("read ones", 2, x.looks(2, 2, 0));
        due("ones behind", 0, x.looks(2, 4, 0));
        x.lay(0, 2, 0, -1);
        due("too low", 0, x.read(0, 2));
        x.sheet(1, 0, 2);
        x.lay(1, 0, 0, 256 + 4);
        x.lay(1, 0, 1, 255);
        due("bytes", 1, x.read(1, 3));
        due("lowest bits", 4, x.looks(3, 0, 0));
    }

    private static void p9() {
        promise = 9;
        FrostHole x = new FrostHole();
        due("low tool", BAD, x.stroke(-1, 0));
        due("high tool", BAD, x.stroke(4, 0));
        due("low cell", BAD, x.stroke(0, -1));
        due("high cell", BAD, x.stroke(0, 32));
        for (int n = 1; n <= 40; n++) {
            due("more", n, x.stroke(n % 4, n % 32));
        }
        due("full", FULL, x.stroke(0, 0));
        due("BAD ahead of FULL", BAD, x.stroke(0, 32));
        due("count", 40, x.count(4));
    }

    private static void p10() {
        promise = 10;
        FrostHole x = with("3", ".");
        due("none", NOT, x.back());
        x.stroke(0, 0);
        x.stroke(0, 0);
        due("one left", 1, x.back());
        due("cleared", 0, x.thick(1, 0));
        due("none left", 0, x.back());
        due("thick again", 3, x.thick(0, 0));
        due("holds again", 99, x.left(0));
        due("none", NOT, x.back());
        due("count", 0, x.count(4));
    }

    private static void p11() {
        promise = 11;
        FrostHole x = with("30;45", ".");
        due("none", NONE, x.judged());
        x.stroke(0, 0);
        due("done", NONE, x.judged());
        x.stroke(0, 8);
        x.stroke(0, 1);
        due("clear at first", 2, x.judged());
        x.back();
        x.stroke(0, 2);
        due("no such cell", 2, x.judged());
        x.back();
        x.stroke(0, 0);
        due("cleared already", 2, x.judged());
        x.back();
        x.tool(0, 1, 7);
        due("holds just enough", NONE, x.judged());
        x.tool(0, 1, 6);
        due("breaks at the second", 1, x.judged());
        x.stroke(1, 9);
        due("the first of all", 1, x.judged());
        due("others are looked at", 0, x.thick(3, 9));
        x.tool(0, 1, 0);
        due("broken at once", 0, x.judged());
    }

    private static void p12() {
        promise = 12;
        FrostHole x = with("305;714", ".");
        x.stroke(2, 8);
        x.stroke(2, 0);
        due("before", 7, x.thick(0, 8));
        due("behind one", 0, x.thick(1, 8));
        due("not yet", 3, x.thick(1, 0));
        due("behind two", 0, x.thick(2, 0));
        due("untouched", 4, x.thick(2, 10));
        due("clear at first", 0, x.thick(0, 1));
        due("low k", BAD, x.thick(-1, 0));
        due("high k", BAD, x.thick(3, 0));
        due("low cell", BAD, x.thick(0, -1));
        due("high cell", BAD, x.thick(0, 32));
        due("not in the row", BAD, x.thick(0, 3));
        due("no such row", BAD, x.thick(0, 16));
        x.stroke(2, 9);
        due("thin one cleared", 0, x.thick(3, 9));
        x.tool(2, 1, 7);
        due("stroke not done", 3, x.thick(3, 0));
        due("thin one not done", 1, x.thick(3, 9));
    }

    private static void p13() {
        promise = 13;
        FrostHole x = with("20;34", "..l");
        x.looks(1, 8, 7);
        x.looks(1, 1, 9);
        x.stroke(0, 8);
        x.stroke(0, 8);
        x.stroke(3, 9);
        due("seconds 0", 0, x.state(0, 0));
        due("seconds 1", 15, x.state(1, 0));
        due("seconds 2", 15, x.state(2, 0));
        due("seconds 3", 15 + 48, x.state(3, 0));
        due("risk 0", 3 * 2 + 7, x.state(0, 1));
        due("risk 1", 4, x.state(1, 1));
        due("risk 3", 2, x.state(3, 1));
        due("clear 0", 1, x.state(0, 2));
        due("clear 2", 2, x.state(2, 2));
        due("clear 3", 3, x.state(3, 2));
        due("low k", BAD, x.state(-1, 0));
        due("high k", BAD, x.state(4, 0));
        due("low what", BAD, x.state(0, -1));
        due("high what", BAD, x.state(0, 3));
        x.tool(0, 0, 60);
        due("slower", 180, x.state(2, 0));
        tell(x, 1, "?");
        due("faulty road", 0, x.state(0, 1));
        tell(x, 0, "5");
        due("faulty", 0, x.state(3, 0));
        due("faulty clear", 0, x.state(3, 2));
    }

    private static void p14() {
        promise = 14;
        FrostHole x = with("99;99", ".");
        due("low", BAD, x.left(-1));
        due("high", BAD, x.left(4));
        due("all", 99, x.left(3));
        x.stroke(1, 0);
        x.stroke(1, 0);
        x.stroke(2, 8);
        due("one done", 90, x.left(1));
        due("other tool", 90, x.left(2));
        x.tool(1, 1, 8);
        due("none done", 8, x.left(1));
        x.tool(1, 1, 9);
        due("just done", 0, x.left(1));
    }

    private static void p15() {
        promise = 15;
        FrostHole x = with("10;23", "x.l");
        x.looks(4, 8, 6);
        x.looks(4, 1, 9);
        x.looks(4, 2, 9);
        due("crossing", 6, x.risk(0));
        due("straight", 3, x.risk(1));
        due("bend", 0, x.risk(2));
        x.stroke(0, 8);
        due("crossing behind", 0, x.risk(0));
        due("straight behind", 2, x.risk(1));
        due("low", BAD, x.risk(-1));
        due("high", BAD, x.risk(3));
        tell(x, 1, "rs");
        for (int kind = 1; kind <= 3; kind++) {
            x.looks(kind, 9, kind + 1);
            due("kind " + kind, kind + 1, x.risk(kind + 1));
        }
        x.undo(1);
        due("undone", BAD, x.risk(4));
        tell(x, 1, "?");
        due("faulty road", BAD, x.risk(0));
    }

    private static void p16() {
        promise = 16;
        FrostHole x = with("19;20", "");
        due("low", BAD, x.all(-1));
        due("high", BAD, x.all(4));
        due("card", 60, x.all(0));
        due("hand", 144, x.all(3));
        x.stroke(0, 1);
        due("behind", 15, x.all(0));
        x.tool(1, 1, 0);
        due("holds aside", 24, x.all(1));
        x.tool(2, 0, 60);
        due("slow", 180, x.all(2));
    }

    private static void p17() {
        promise = 17;
        FrostHole x = with("420;631", ".s");
        x.looks(0, 10, 0);
        x.looks(3, 8, 2);
        due("many", 4, x.first(0, NONE));
        due("2 is like 8 by thick: least first", 1, x.first(0, 0));
        due("second", 8, x.first(0, 1));
        due("third", 9, x.first(0, 2));
        due("fourth", 0, x.first(0, 3));
        due("behind", NONE, x.first(0, 4));
        due("last i", NONE, x.first(0, 31));
        x.looks(3, 10, 1);
        due("takes risk off now", 10, x.first(3, 0));
        x.stroke(2, 10);
        due("clear", 1, x.first(3, 0));
        due("low tool", BAD, x.first(-1, 0));
        due("high tool", BAD, x.first(4, 0));
        due("low i", BAD, x.first(0, -2));
        due("high i", BAD, x.first(0, 32));
        x.wipe(1);
        due("no road", 0, x.first(0, NONE));
        // 3 by 2, 5 by 3, 8 by 5: the second, then the third.
        FrostHole y = with("235", ".");
        y.looks(0, 0, 3);
        y.looks(0, 1, 5);
        y.looks(0, 2, 8);
        due("most a second", 1, y.first(0, 0));
        due("then", 2, y.first(0, 1));
        due("least a second", 0, y.first(0, 2));
    }

    private static void p18() {
        promise = 18;
        FrostHole x = with("124", ".");
        x.looks(0, 2, 3);
        due("none is dear", 0, x.stop(2, 1, 1, 0));
        due("all risk paid", 5, x.stop(2, 1, 1, 1));
        due("like ones the fewest", 0, x.stop(2, 1, 2, 0));
        due("first two", 2, x.stop(2, 1, 3, 0));
        due("paid", 10 + 3, x.stop(2, 1, 3, 1));
        due("all", 3, x.stop(2, 1, 5, 0));
        due("paid for all", 14, x.stop(2, 1, 5, 1));
        due("free seconds", 3, x.stop(3, 0, 99, 0));
        due("free seconds paid", 0, x.stop(3, 0, 99, 1));
        due("free risk", 0, x.stop(3, 99, 0, 1));
        x.stroke(2, 0);
        due("behind strokes", 1, x.stop(2, 1, 3, 0));
        due("strokes' own seconds aside", 3 + 8, x.stop(2, 1, 3, 1));
        due("low tool", BAD, x.stop(-1, 0, 0, 0));
        due("high tool", BAD, x.stop(4, 0, 0, 0));
        due("low c", BAD, x.stop(0, -1, 0, 0));
        due("high c", BAD, x.stop(0, 100, 0, 0));
        due("low v", BAD, x.stop(0, 0, -1, 0));
        due("high v", BAD, x.stop(0, 0, 100, 0));
        due("low what", BAD, x.stop(0, 0, 0, -1));
        due("high what", BAD, x.stop(0, 0, 0, 2));
    }

    private static void p19() {
        promise = 19;
        FrostHole x = with("22;31", "");
        due("engine", 30, x.warm(10, 0, 0));
        due("scraper", 12, x.warm(10, 2, 1));
        due("card", 20, x.warm(10, 0, 1));
        due("hand no help", 30, x.warm(10, 3, 1));
        due("engine is quicker", 3, x.warm(1, 2, 1));
        due("slow engine", 16, x.warm(60, 2, 1));
        due("low m", BAD, x.warm(0, 0, 0));
        due("high m", BAD, x.warm(61, 0, 0));
        due("low tool", BAD, x.warm(1, -1, 0));
        due("high tool", BAD, x.warm(1, 4, 0));
        due("low what", BAD, x.warm(1, 0, -1));
        due("high what", BAD, x.warm(1, 0, 2));
        x.tool(2, 1, 0);
        due("holds aside", 12, x.warm(10, 2, 1));
        x.stroke(1, 8);
        due("behind strokes", 20, x.warm(10, 2, 0));
        // Second 4 begins when the melting of second 4 is over.
        FrostHole y = with("22", "");
        due("melted already", 6, y.warm(4, 2, 1));
        due("ends as it melts", 4, with("2", "").warm(2, 2, 1));
        due("thin pane", 60, with("101", "").warm(60, 3, 0));
        due("clear pane", 0, with("00", "").warm(60, 3, 1));
        due("empty pane", 0, new FrostHole().warm(60, 3, 0));
    }

    private static void p20() {
        promise = 20;
        FrostHole x = new FrostHole();
        due("just not", 0, x.crack(40, 0));
        due("just", 1, x.crack(41, 0));
        due("cold just not", 0, x.crack(10, 30));
        due("cold just", 1, x.crack(11, 30));
        due("hottest", 1, x.crack(99, 30));
        due("water", 40, x.crack(NONE, 0));
        due("cold water", 10, x.crack(NONE, 30));
        due("low w", BAD, x.crack(-2, 0));
        due("high w", BAD, x.crack(100, 0));
        due("low d", BAD, x.crack(0, -1));
        due("high d", BAD, x.crack(NONE, 31));
    }

    private static void p21() {
        promise = 21;
        FrostHole x = with("305;124", "");
        due("no cup", 0, x.melts(40, 0, 0));
        due("thinnest", 1, x.melts(10, 0, 1));
        due("not yet two", 1, x.melts(10, 0, 2));
        due("two", 2, x.melts(10, 0, 3));
        due("what is not needed is lost", 2, x.melts(20, 0, 3));
        due("three", 3, x.melts(20, 0, 4));
        due("all", 5, x.melts(29, 11, 9));
        due("all but one", 4, x.melts(29, 11, 8));
        due("too cool", 0, x.melts(9, 0, 99));
        due("cracks", NOT, x.melts(29, 12, 9));
        due("BAD ahead of NOT", BAD, x.melts(99, 30, 100));
        due("low w", BAD, x.melts(-1, 0, 0));
        due("high w", BAD, x.melts(100, 0, 0));
        due("low d", BAD, x.melts(0, -1, 0));
        due("high d", BAD, x.melts(0, 31, 0));
        due("low k", BAD, x.melts(0, 0, -1));
        due("high k", BAD, x.melts(0, 0, 100));
        x.stroke(0, 8);
        due("behind strokes", 0, x.melts(10, 0, 1));
        due("coldest water", 0, x.melts(0, 0, 99));
        due("thickest", 1, with("9", "").melts(10, 30, 9));
    }

    private static void p22() {
        promise = 22;
        FrostHole x = new FrostHole();
        due("whitens", 2, x.again(5, 9, 60, 0));
        due("ten is not white", 10, x.again(1, 0, 0, 0));
        due("never", NONE, x.again(1, 1, 10, 0));
        due("never", 0, x.again(1, 1, 10, 1));
        due("holds on", 10, x.again(1, 1, 11, 0));
        due("white at the end", NONE, x.again(1, 1, 11, 1));
        // Damp is 15 in minute 2 and 11, 7 in minutes 3, 4.
        due("clears", 4, x.again(5, 9, 3, 1));
        // 300 behind minute 59, then 4 less each minute: 56 behind minute 120.
        due("late", NONE, x.again(5, 9, 60, 1));
        // 168 behind minute 41, then 2 less each minute: 12 behind minute 119, 10 behind 120.
        due("just in time", 120, x.again(4, 6, 42, 1));
        // 99 behind minute 32, then 1 less each minute: 11 behind minute 120.
        due("just not in time", NONE, x.again(3, 4, 33, 1));
        due("low people", BAD, x.again(0, 0, 0, 0));
        due("high people", BAD, x.again(6, 0, 0, 0));
        due("low b", BAD, x.again(1, -1, 0, 0));
        due("high b", BAD, x.again(1, 10, 0, 0));
        due("low t", BAD, x.again(1, 0, -1, 0));
        due("high t", BAD, x.again(1, 0, 61, 0));
        due("low what", BAD, x.again(1, 0, 0, -1));
        due("high what", BAD, x.again(1, 0, 0, 2));
    }

    private static void p23() {
        promise = 23;
        FrostHole x = new FrostHole();
        int[][][] want = {{{6, 3}, {5, 3}, {4, 2}, {3, 2}}, {{2, 1}, {1, 1}, {0, 0}, {0, 0}}};
        for (int sky = 0; sky < 2; sky++) {
            for (int wind = 0; wind < 4; wind++) {
                due("open", want[sky][wind][0], x.night(sky, wind, 0));
                due("by a wall", want[sky][wind][1], x.night(sky, wind, 1));
            }
        }
        due("low sky", BAD, x.night(-1, 0, 0));
        due("high sky", BAD, x.night(2, 0, 0));
        due("low wind", BAD, x.night(0, -1, 0));
        due("high wind", BAD, x.night(0, 4, 0));
        due("low wall", BAD, x.night(0, 0, -1));
        due("high wall", BAD, x.night(0, 0, 2));
    }

    private static void p24() {
        promise = 24;
        long bad = Long.MIN_VALUE + 2;
        FrostHole x = with("100", "");
        // 3 cells, 5 seconds: 15 times (4 * 3 + 12 * 1) by 16 is 45 by 2.
        due("halves above", 45, x.tonight(4, 1, 1, 0, 0));
        due("halves below", 2, x.tonight(4, 1, 1, 0, 1));
        // 15 times (3 * 6 + 13 * 2) by 16 is 165 by 4.
        due("quarters above", 165, x.tonight(3, 0, 0, 0, 0));
        due("quarters below", 4, x.tonight(3, 0, 0, 0, 1));
        // 15 times (1 * 3 + 15 * 0) by 16.
        due("sixteenths above", 45, x.tonight(1, 3, 0, 0, 0));
        due("sixteenths below", 16, x.tonight(1, 3, 0, 0, 1));
        due("cloud alone", 0, x.tonight(0, 3, 0, 0, 0));
        due("cloud alone, below", 1, x.tonight(0, 3, 0, 0, 1));
        due("clear alone", 216, x.tonight(16, 0, 0, 3, 0));
        x.stroke(0, 0);
        due("strokes aside", 216, x.tonight(16, 0, 0, 3, 0));
        due("low p", bad, x.tonight(-1, 0, 0, 0, 0));
        due("high p", bad, x.tonight(17, 0, 0, 0, 0));
        due("low wind", bad, x.tonight(0, -1, 0, 0, 0));
        due("high wind", bad, x.tonight(0, 4, 0, 0, 0));
        due("low wall", bad, x.tonight(0, 0, -1, 0, 0));
        due("high wall", bad, x.tonight(0, 0, 2, 0, 0));
        due("low tool", bad, x.tonight(0, 0, 0, -1, 0));
        due("high tool", bad, x.tonight(0, 0, 0, 4, 0));
        due("low what", bad, x.tonight(0, 0, 0, 0, -1));
        due("high what", bad, x.tonight(0, 0, 0, 0, 2));
    }

    private static void p25() {
        promise = 25;
        FrostHole x = with("100", "");
        // 165 by 4 tonight, as above: 41 and 4 sixteenths.
        due("just worth", 1, x.cover(3, 41, 3, 1));
        due("like is not worth", 0, x.cover(3, 41, 4, 1));
        due("dearer", 0, x.cover(3, 42, 0, 0));
        due("sticks surely", 0, x.cover(3, 0, 16, 42));
        due("sticks surely, worth", 1, x.cover(3, 0, 16, 41));
        due("dearest", 0, x.cover(16, 9999, 16, 9999));
        due("cloud alone", 1, x.cover(0, 29, 0, 0));
        due("cloud alone, like", 0, x.cover(0, 30, 0, 0));
        x.tool(0, 0, 6);
        due("by the card", 1, x.cover(3, 42, 0, 0));
        due("low p", BAD, x.cover(-1, 0, 0, 0));
        due("high p", BAD, x.cover(17, 0, 0, 0));
        due("low c", BAD, x.cover(0, -1, 0, 0));
        due("high c", BAD, x.cover(0, 10000, 0, 0));
        due("low s", BAD, x.cover(0, 0, -1, 0));
        due("high s", BAD, x.cover(0, 0, 17, 0));
        due("low e", BAD, x.cover(0, 0, 0, -1));
        due("high e", BAD, x.cover(0, 0, 0, 10000));
    }

    private static void p26() {
        promise = 26;
        FrostHole x = new FrostHole();
        due("low seconds", BAD, x.car(0, 0));
        due("high seconds", BAD, x.car(10000, 0));
        due("low leave", BAD, x.car(1, -1));
        due("high leave", BAD, x.car(1, 10000));
        for (int n = 1; n <= 7; n++) {
            due("more", n, x.car(n == 1 ? 9999 : 1, n == 2 ? 9999 : 0));
        }
        due("full", FULL, x.car(1, 0));
        due("BAD ahead of FULL", BAD, x.car(0, 0));
        due("count", 7, x.count(7));
    }

    private static void p27() {
        promise = 27;
        FrostHole x = new FrostHole();
        due("none", NOT, x.gone());
        x.car(5, 0);
        x.car(7, 0);
        due("one left", 1, x.gone());
        due("late", 5, x.lent(NONE));
        due("none left", 0, x.gone());
        due("late none", 0, x.lent(NONE));
        due("none", NOT, x.gone());
    }

    private static void p28() {
        promise = 28;
        FrostHole x = new FrostHole();
        due("no car", 0, x.lent(NONE));
        due("no car", NONE, x.lent(0));
        x.car(10, 9999);
        x.car(10, 9999);
        x.car(5, 9999);
        due("none late", 0, x.lent(NONE));
        due("least row", 0, x.lent(0));
        due("least row", 1, x.lent(1));
        due("least row", 2, x.lent(2));
        x.car(3, 3);
        x.car(1, 0);
        // 4 first: late 1, then 3 late 1; 3 first: late 0, then 4 late 4.
        due("late", 2, x.lent(NONE));
        due("first", 4, x.lent(0));
        due("second", 3, x.lent(1));
        due("third", 0, x.lent(2));
        due("fifth", 2, x.lent(4));
        due("behind", NONE, x.lent(5));
        due("last i", NONE, x.lent(6));
        due("low", BAD, x.lent(-2));
        due("high", BAD, x.lent(7));
    }

    private static void p29() {
        promise = 29;
        due("empty", NONE, new FrostHole().faced());
        due("one", NONE, with("5", "").faced());
        due("like", NONE, with("55;33", "").faced());
        due("left", 0, with("012;333", "").faced());
        due("right", 1, with("333;211", "").faced());
        due("both", NONE, with("12;21", "").faced());
        due("up and down", NONE, with("121", "").faced());
        due("from row to row aside", 0, with("89;01", "").faced());
        FrostHole x = with("129", "");
        x.stroke(0, 2);
        due("as it is told", 0, x.faced());
        tell(x, 0, ";");
        due("faulty", NONE, x.faced());
    }

    private static void p30() {
        promise = 30;
        FrostHole x = with("11", ".s");
        x.looks(3, 0, 9);
        due("like", 0, x.bend(0, 6, 3));
        due("stop", 1, x.bend(0, 5, 3));
        due("sun", 1, x.bend(1, 26, 3));
        x.stroke(0, 0);
        due("behind strokes", 0, x.bend(1, 0, 99));
        due("most", 0, x.bend(0, 999, 99));
        due("free risk", 0, x.bend(0, 0, 0));
        due("low stretch", BAD, x.bend(-1, 0, 0));
        due("high stretch", BAD, x.bend(2, 0, 0));
        due("low w", BAD, x.bend(0, -1, 0));
        due("high w", BAD, x.bend(0, 1000, 0));
        due("low a", BAD, x.bend(0, 0, -1));
        due("high a", BAD, x.bend(0, 0, 100));
    }

    private static void p31() {
        promise = 31;
        FrostHole x = new FrostHole();
        due("low sheet", BAD, x.sheet(-1, 0, 0));
        due("high sheet", BAD, x.sheet(4, 0, 0));
        due("low form", BAD, x.sheet(0, -1, 0));
        due("high form", BAD, x.sheet(0, 3, 0));
        due("high n", BAD, x.sheet(0, 0, 61));
        due("BAD ahead of SIZE", BAD, x.sheet(4, 0, -1));
        due("no finding", 0, x.count(8));
        due("SIZE", SIZE, x.sheet(0, 0, -1));
        due("finding", 5, x.count(8));
        due("still lost", NULL, x.lose(0));
        due("none", 0, x.sheet(0, 0, 0));
        due("most", 60, x.sheet(0, 2, 60));
        x.lay(0, 2, 59, 7);
        due("SIZE again", SIZE, x.sheet(0, 1, LEAST));
        due("unchanged", 7, x.get(0, 2, 59));
        due("anew", 60, x.sheet(0, 2, 60));
        due("0 at first", 0, x.get(0, 2, 59));
    }

    private static void p32() {
        promise = 32;
        FrostHole x = new FrostHole();
        x.sheet(3, 1, 17);
        due("low", BAD, x.lose(-1));
        due("high", BAD, x.lose(4));
        due("had", 17, x.lose(3));
        due("lost", NULL, x.lose(3));
        due("finding", 1, x.count(8));
        due("get", LEAST, x.get(3, 1, 0));
        x.sheet(3, 1, 0);
        due("had none", 0, x.lose(3));
    }

    private static void p33() {
        promise = 33;
        FrostHole x = new FrostHole();
        due("low sheet", BAD, x.lay(-1, 0, 0, 0));
        due("high sheet", BAD, x.lay(4, 0, 0, 0));
        due("low form", BAD, x.lay(0, -1, 0, 0));
        due("high form", BAD, x.lay(0, 3, 0, 0));
        due("lost", NULL, x.lay(0, 0, 0, 0));
        for (int form = 0; form < 3; form++) {
            x.sheet(form, form, 4);
            due("lay", 1, x.lay(form, form, 3, 0x12348765));
            due("lay", 1, x.lay(form, form, 0, 0xFFFF));
        }
        due("byte", 0x65, x.get(0, 0, 3));
        due("byte sign", -1, x.get(0, 0, 0));
        due("short", (short) 0x8765, x.get(1, 1, 3));
        due("short sign", -1, x.get(1, 1, 0));
        due("int", 0x12348765, x.get(2, 2, 3));
        due("int unsigned", 0xFFFF, x.get(2, 2, 0));
        due("CAST ahead of INDEX", CAST, x.lay(0, 1, 4, 0));
        due("finding", 3, x.count(8));
        due("low item", INDEX, x.lay(0, 0, -1, 0));
        due("high item", INDEX, x.lay(0, 0, 4, 0));
        due("finding", 2, x.count(8));
    }

    private static void p34() {
        promise = 34;
        FrostHole x = new FrostHole();
        due("low sheet", LEAST, x.get(-1, 0, 0));
        due("high sheet", LEAST, x.get(4, 0, 0));
        due("low form", LEAST, x.get(0, -1, 0));
        due("high form", LEAST, x.get(0, 3, 0));
        due("no finding", 0, x.count(8));
        due("lost", LEAST, x.get(0, 0, 0));
        due("NULL", 1, x.count(8));
        x.sheet(0, 1, 2);
        due("other form", LEAST, x.get(0, 0, 5));
        due("CAST", 3, x.count(8));
        due("high item", LEAST, x.get(0, 1, 2));
        due("INDEX", 2, x.count(8));
        x.sheet(1, 1, -1);
        due("low item", LEAST, x.get(0, 1, -1));
        due("INDEX", 2, x.count(8));
        due("bad form", LEAST, x.get(0, 7, 0));
        due("still INDEX", 2, x.count(8));
        x.lay(0, 1, 1, -5);
        due("item", -5, x.get(0, 1, 1));
    }

    private static void p35() {
        promise = 35;
        FrostHole x = new FrostHole();
        due("bad ones", BAD, x.copy(-1, 0, 0, 0, 0));
        due("bad ones", BAD, x.copy(0, 0, 4, 0, 0));
        due("lost both", NULL, x.copy(0, 0, 1, 0, 0));
        x.sheet(0, 2, 5);
        due("lost target", NULL, x.copy(0, 0, 1, 0, 0));
        due("lost source", NULL, x.copy(1, 0, 0, 0, 0));
        x.sheet(1, 1, 3);
        due("STORE ahead of INDEX", STORE, x.copy(0, 9, 1, 0, 9));
        due("finding", 4, x.count(8));
        x.sheet(1, 2, 3);
        for (int i = 0; i < 5; i++) {
            x.lay(0, 2, i, i + 1);
        }
        due("low i", INDEX, x.copy(0, -1, 1, 0, 1));
        due("low j", INDEX, x.copy(0, 0, 1, -1, 1));
        due("low n", INDEX, x.copy(0, 0, 1, 0, -1));
        due("not so many here", INDEX, x.copy(0, 3, 1, 0, 3));
        due("not so many there", INDEX, x.copy(0, 0, 1, 1, 3));
        due("wrapping", INDEX, x.copy(0, Integer.MAX_VALUE, 1, 0, Integer.MAX_VALUE));
        due("finding", 2, x.count(8));
        due("nothing copied", 0, x.get(1, 2, 0));
        due("none at the end", 1, x.copy(0, 5, 1, 3, 0));
        due("none behind the end", INDEX, x.copy(0, 6, 1, 3, 0));
        due("copy", 1, x.copy(0, 3, 1, 1, 2));
        due("copied", 4, x.get(1, 2, 1));
        due("copied", 5, x.get(1, 2, 2));
        due("not copied", 0, x.get(1, 2, 0));
        due("over itself", 1, x.copy(0, 0, 0, 1, 4));
        int[] want = {1, 1, 2, 3, 4};
        for (int i = 0; i < 5; i++) {
            due("as they were", want[i], x.get(0, 2, i));
        }
    }

    private static void p36() {
        promise = 36;
        FrostHole x = with("3;0;1;2", ".");
        due("low tool", BAD, x.write(-1, 0));
        due("high tool", BAD, x.write(4, 0));
        due("low sheet", BAD, x.write(0, -1));
        due("high sheet", BAD, x.write(0, 4));
        due("lost", NULL, x.write(0, 0));
        due("finding", 1, x.count(8));
        x.sheet(0, 0, 2);
        due("as many as items", 2, x.write(0, 0));
        due("first", 16, x.get(0, 0, 0));
        due("second", 24, x.get(0, 0, 1));
        x.sheet(0, 1, 5);
        x.lay(0, 1, 3, 77);
        due("as many as cells", 3, x.write(3, 0));
        due("third", 0, x.get(0, 1, 2));
        due("kept", 77, x.get(0, 1, 3));
        x.sheet(0, 2, 0);
        due("none", 0, x.write(0, 0));
    }

    private static void p37() {
        promise = 37;
        FrostHole x = with("30;14", ".lx");
        x.stroke(0, 0);
        x.stroke(0, 1);
        x.car(1, 1);
        int[] want = {4, 3, 5, 3, 2, 1, 8, 1, 0};
        for (int what = 0; what <= 8; what++) {
            due("count " + what, want[what], x.count(what));
        }
        due("low", BAD, x.count(-1));
        due("high", BAD, x.count(9));
        x.lose(0);
        due("finding", 1, x.count(8));
        tell(x, 0, "1");
        tell(x, 1, "?");
        due("faulty cells", 0, x.count(0));
        due("faulty stretches", 0, x.count(1));
        due("bytes all the same", 6, x.count(2));
        due("bytes all the same", 4, x.count(3));
        due("none done", 0, x.count(5));
        FrostHole y = with("1", "");
        y.stroke(0, 0);
        due("thin one done", 1, y.count(5));
    }

    private static void p38() {
        promise = 38;
        FrostHole x = with("305;714;019", "..lsx");
        x.looks(3, 9, 5);
        x.looks(1, 0, 2);
        x.stroke(0, 8);
        x.stroke(1, 9);
        x.stroke(1, 1);
        x.car(30, 10);
        x.car(10, 20);
        due("digest", digestOf(x), x.digest());
        due("twice", x.digest(), x.digest());
        long before = x.digest();
        x.lose(0);
        due("findings aside", before, x.digest());
        FrostHole empty = new FrostHole();
        due("empty", digestOf(empty), empty.digest());
        due("faulty", digestOf(with("1;", "q")), with("1;", "q").digest());
        String[] panes = {"3333", "332", "111111", "99999999;88888888;77777777", "0", "9876;9753", "12;34;56;78"};
        for (int i = 0; i < panes.length; i++) {
            FrostHole y = with(panes[i], "sx.rl");
            y.looks(3, 0, 9);
            y.looks(3, 1, 6);
            y.looks(4, 0, 9);
            y.looks(4, 1, 7);
            y.tool(0, 0, i == 0 ? 5 : 7);
            due("digest of " + panes[i], digestOf(y), y.digest());
        }
    }

    private static long digestOf(FrostHole x) {
        java.util.ArrayList<Long> row = new java.util.ArrayList<>();
        for (int what = 0; what <= 7; what++) row.add((long) x.count(what));
        row.add((long) x.fault(0));
        row.add((long) x.fault(1));
        row.add((long) x.judged());
        for (int what = 0; what <= 2; what++) row.add((long) x.state(x.count(4), what));
        for (int tool = 0; tool < 4; tool++) {
            row.add((long) x.left(tool));
            row.add((long) x.all(tool));
            for (int i = -1; i <= 1; i++) row.add((long) x.first(tool, i));
            for (int what = 0; what <= 1; what++) row.add((long) x.stop(tool, 1, 3, what));
            for (int what = 0; what <= 1; what++) row.add((long) x.warm(20, tool, what));
            for (int what = 0; what <= 1; what++) row.add(x.tonight(6, 1, 0, tool, what));
        }
        for (int stretch = 0; stretch < x.count(1); stretch++) {
            row.add((long) x.risk(stretch));
            row.add((long) x.bend(stretch, 30, 2));
        }
        row.add((long) x.melts(30, 6, 5));
        for (int what = 0; what <= 1; what++) row.add((long) x.again(3, 4, 5, what));
        row.add((long) x.cover(8, 60, 4, 90));
        for (int i = -1; i <= 1; i++) row.add((long) x.lent(i));
        row.add((long) x.faced());
        long h = 17;
        for (long value : row) h = 31 * h + value;
        return h;
    }
}
