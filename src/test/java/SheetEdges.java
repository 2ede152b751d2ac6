/** Edges of promises 32 to 40, and of what the document's fifth term says of sheets and slots. */
final class SheetEdges {
    private static final int BAD = StrokesHeard.BAD, NO = StrokesHeard.NO, NONE = StrokesHeard.NONE;
    private static final int NOTHING = StrokesHeard.NOTHING, KIND = StrokesHeard.KIND;
    private static final int INDEX = StrokesHeard.INDEX, SIZE = StrokesHeard.SIZE;
    private static final int LEAST = Integer.MIN_VALUE, GREATEST = Integer.MAX_VALUE;

    static void all(Edges e) {
        sheetBounds(e);
        sheet(e);
        markBounds(e);
        markShorts(e);
        markFloats(e);
        pour(e);
        reads(e);
        copyRefused(e);
        copyIndex(e);
        copy(e);
        lay(e);
        layHolds(e);
        ask(e);
        item(e);
        rest(e);
    }

    private static void places(Edges e, StrokesHeard x, int sheet, int... values) {
        for (int i = 0; i < values.length; i++) e.is("place " + i, Edges.at(x, sheet, i), values[i]);
        e.is("no more places", Edges.at(x, sheet, values.length), INDEX);
    }

    private static void sheetBounds(Edges e) {
        StrokesHeard x = new StrokesHeard();
        e.promise(32, "SHEETS 0 .. 3");
        e.is("the first", x.sheet(0, 0, 2), 2);
        e.is("the last", x.sheet(3, 0, 2), 2);
        e.is("it is there", x.mark(3, 1, 1), 1);
        e.outside("sheet", 0, 3, (y, v) -> y.sheet(v, 0, 1), BAD);
        e.outside("sheet, MISSING", 0, 3, (y, v) -> y.sheet(v, -1, 1), BAD);
        e.promise(32, "sort 0, 1, -1");
        e.is("-1", x.sheet(1, -1, 2), 0);
        e.is("0", x.sheet(1, 0, 2), 2);
        e.is("1", x.sheet(1, 1, 2), 2);
        e.outside("sort", -1, 1, (y, v) -> y.sheet(0, v, 1), BAD);
        e.promise(32, "with 0 to 24 places");
        for (int sort = 0; sort < 2; sort++) {
            e.is("none", x.sheet(2, sort, 0), 0);
            e.is("the first is none", x.mark(2, 0, 1), INDEX);
            e.is("all", x.sheet(2, sort, 24), 24);
            e.is("the last", x.mark(2, 23, 1), 1);
            e.is("no more", x.mark(2, 24, 1), INDEX);
        }
        e.promise(32, "BAD: n above 24");
        for (int sort = 0; sort < 2; sort++) {
            int s = sort;
            e.refused("25 of sort " + s, y -> y.sheet(1, s, 25), BAD);
            e.refused("the greatest of sort " + s, y -> y.sheet(1, s, GREATEST), BAD);
        }
        e.promise(32, "SIZE: a number of places is below 0");
        for (int sort = 0; sort < 2; sort++) {
            int s = sort;
            e.refused("-1 of sort " + s, y -> y.sheet(1, s, -1), SIZE);
            e.refused("the least of sort " + s, y -> y.sheet(1, s, LEAST), SIZE);
        }
        e.promise(32, "BAD; SIZE: of several the one that stands first");
        e.refused("sheet", y -> y.sheet(4, 0, -1), BAD);
        e.refused("sort", y -> y.sheet(0, 2, -1), BAD);
    }

    private static void sheet(Edges e) {
        e.promise(32, "sort -1: MISSING, n any: 0");
        for (int n : new int[] {LEAST, -1, 0, 24, 25, GREATEST}) {
            StrokesHeard x = Edges.made(Edges::rich);
            e.is("n " + n, x.sheet(0, -1, n), 0);
            e.is("it is MISSING", x.reads(0), NOTHING);
            e.is("and may be again", x.sheet(0, -1, n), 0);
        }
        e.promise(32, "all 0");
        StrokesHeard x = Edges.made(Edges::rich);
        x.sheet(1, 1, 24);
        places(e, x, 1, new int[24]);
        x.mark(1, 23, NONE);
        x.sheet(1, 1, 2);
        x.sheet(1, 1, 24);
        places(e, x, 1, new int[24]);
        e.promise(32, "a SHEET becomes a row of another sort");
        x.sheet(1, 0, 4);
        e.is("shorts", x.mark(1, 0, NONE), KIND);
        x.sheet(1, 1, 4);
        e.is("floats", x.mark(1, 0, NONE), 1);
    }

    private static void markBounds(Edges e) {
        e.promise(33, "BAD: sheet");
        e.outside("sheet", 0, 3, (x, v) -> x.mark(v, 0, 0), BAD);
        e.promise(33, "NOTHING: a SHEET is MISSING");
        e.refused("missing", x -> x.mark(3, 0, 0), NOTHING);
        e.promise(33, "INDEX: there is no such place");
        e.outside("place of shorts", 0, 2, (x, v) -> x.mark(0, v, 1), INDEX);
        e.outside("place of floats", 0, 3, (x, v) -> x.mark(1, v, 1), INDEX);
        e.refused("of no places", x -> x.mark(2, 0, 1), INDEX);
        StrokesHeard x = Edges.made(Edges::rich);
        e.is("the first", x.mark(0, 0, 9), 1);
        e.is("the last", x.mark(0, 2, 8), 1);
        places(e, x, 0, 9, -4, 8);
        e.promise(33, "KIND: NONE in a row of shorts");
        e.refused("NONE", y -> y.mark(0, 1, NONE), KIND);
        e.promise(33, "BAD: v of floats");
        e.outside("v", -99999, 99999, (y, v) -> y.mark(1, 1, v), BAD);
        e.refused("next above NONE", y -> y.mark(1, 1, NONE + 1), BAD);
        e.refused("next below NONE", y -> y.mark(1, 1, NONE - 1), BAD);
        e.promise(33, "of several the one that stands first");
        e.refused("BAD: sheet, ahead of all", y -> y.mark(4, -1, NONE), BAD);
        e.refused("NOTHING ahead of INDEX", y -> y.mark(3, -1, NONE), NOTHING);
        e.refused("INDEX ahead of KIND", y -> y.mark(0, 3, NONE), INDEX);
        e.refused("INDEX ahead of BAD: v", y -> y.mark(1, 4, 100000), INDEX);
    }

    private static void markShorts(Edges e) {
        e.promise(33, "of shorts its lowest 16 bits");
        StrokesHeard x = Edges.made(Edges::rich);
        int[] told = {32767, 32768, 65535, 65536, -32768, -32769, LEAST, GREATEST, NONE + 1, NONE - 1, 100000};
        int[] kept = {32767, -32768, -1, 0, -32768, 32767, 0, -1, 13820, 13818, -31072};
        for (int i = 0; i < told.length; i++) {
            e.is("mark " + told[i], x.mark(0, 1, told[i]), 1);
            e.is(told[i] + " is kept as", Edges.at(x, 0, 1), kept[i]);
        }
    }

    private static void markFloats(Edges e) {
        e.promise(33, "of floats v, -99999 .. 99999");
        StrokesHeard x = Edges.made(Edges::rich);
        for (int v : new int[] {-99999, 99999, 0, -1, 32768, -32769}) {
            e.is("mark " + v, x.mark(1, 0, v), 1);
            e.is("kept", Edges.at(x, 1, 0), v);
        }
        e.promise(33, "NONE: NO NUMBER");
        e.is("mark", x.mark(1, 0, NONE), 1);
        e.is("kept", Edges.at(x, 1, 0), KIND);
        e.is("mark again", x.mark(1, 0, 5), 1);
        e.is("a number again", Edges.at(x, 1, 0), 5);
    }

    private static StrokesHeard clocks(int many) {
        StrokesHeard x = new StrokesHeard();
        for (int i = 0; i < many; i++) x.clock(0, 10 + i, 0);
        return x;
    }

    private static void offs(Edges e, StrokesHeard x, int... offs) {
        for (int c = 0; c < offs.length; c++) e.is("OFF of " + c, x.told(c, 1), offs[c]);
        e.is("no more CLOCKS", x.count(0), offs.length);
    }

    private static void pour(Edges e) {
        e.promise(34, "BAD: no such SHEET");
        e.outside("sheet", 0, 3, (x, v) -> x.pour(v), BAD);
        e.promise(34, "NOTHING: a SHEET is MISSING");
        e.refused("missing", x -> x.pour(3), NOTHING);
        e.promise(34, "each held within 0 .. 59");
        StrokesHeard x = clocks(6);
        Edges.row(x, 0, 1, 0, 59, -1, 60, -99999, 99999);
        e.is("floats", x.pour(0), 6);
        offs(e, x, 0, 59, 0, 59, 0, 59);
        StrokesHeard shorts = clocks(4);
        Edges.row(shorts, 0, 0, -32768, 32767, 1, 58);
        e.is("shorts", shorts.pour(0), 4);
        offs(e, shorts, 0, 59, 1, 58);
        e.promise(34, "NO NUMBER: they stay");
        StrokesHeard y = clocks(3);
        Edges.row(y, 0, 1, NONE, 7, NONE);
        e.is("one is a number", y.pour(0), 1);
        offs(e, y, 10, 7, 12);
        e.promise(34, "beyond the SHEET: they stay");
        StrokesHeard z = clocks(3);
        Edges.row(z, 0, 0, 1, 2);
        e.is("two places", z.pour(0), 2);
        offs(e, z, 1, 2, 12);
        z.sheet(0, 0, 0);
        e.is("no places", z.pour(0), 0);
        offs(e, z, 1, 2, 12);
        e.promise(34, "a SHEET of more places than CLOCKS");
        for (int many : new int[] {2, 6}) {
            StrokesHeard few = clocks(many);
            few.sheet(0, 0, 24);
            for (int i = 0; i < 24; i++) few.mark(0, i, 30 + i);
            e.is(many + " CLOCKS", few.pour(0), many);
            for (int i = 0; i < many; i++) e.is("OFF of " + i, few.told(i, 1), 30 + i);
            e.is("no more CLOCKS", few.count(0), many);
        }
        StrokesHeard drawn = clocks(2);
        Edges.row(drawn, 0, 0, 1, 2, 3);
        drawn.pour(0);
        e.is("the next CLOCK", drawn.clock(0, 50, 0), 2);
        e.is("has its own OFF", drawn.told(2, 1), 50);
        StrokesHeard none = clocks(0);
        none.sheet(0, 0, 24);
        e.is("no CLOCKS", none.pour(0), 0);
        e.promise(34, "how many are otherwise then");
        StrokesHeard same = clocks(3);
        Edges.row(same, 0, 1, 10, 13, 12);
        e.is("one", same.pour(0), 1);
        e.is("none, again", same.pour(0), 0);
        same.set(0, 1, 59);
        same.mark(0, 0, 99999);
        e.is("none, held", same.pour(0), 0);
    }

    private static void reads(Edges e) {
        e.promise(35, "BAD: no such SHEET");
        e.outside("sheet", 0, 3, (x, v) -> x.reads(v), BAD);
        e.promise(35, "NOTHING: a SHEET is MISSING");
        e.refused("missing", x -> x.reads(3), NOTHING);
        e.promise(35, "The first place at which a SHEET is not STROKES of that CLOCK");
        StrokesHeard x = new StrokesHeard();
        for (int i = 0; i < 6; i++) x.clock(i == 5 ? 3 : 0, 0, 0);
        for (int wrong = 0; wrong < 6; wrong++) {
            for (int by = -1; by <= 1; by += 2) {
                Edges.row(x, 0, 0, 12, 12, 12, 12, 12, 16);
                x.mark(0, wrong, (wrong == 5 ? 16 : 12) + by);
                e.is("place " + wrong + " by " + by, x.reads(0), wrong);
            }
        }
        x.mark(0, 2, 99);
        e.is("of two the first", x.reads(0), 2);
        e.promise(35, "NONE: there is none");
        Edges.row(x, 0, 0, 12, 12, 12, 12, 12, 16);
        e.is("all are", x.reads(0), NONE);
        x.sheet(0, 0, 0);
        e.is("no places", x.reads(0), NONE);
        e.promise(35, "of numbers alone");
        Edges.row(x, 1, 1, NONE, 12, NONE, 12, 12, NONE);
        e.is("some are no numbers", x.reads(1), NONE);
        x.mark(1, 4, 0);
        e.is("behind them", x.reads(1), 4);
        e.promise(35, "of places that are no CLOCK all numbers are not");
        Edges.row(x, 2, 1, 12, 12, 12, 12, 12, 16, 0);
        e.is("the seventh", x.reads(2), 6);
        x.mark(2, 6, NONE);
        e.is("no number", x.reads(2), NONE);
        StrokesHeard none = new StrokesHeard();
        none.sheet(0, 0, 1);
        e.is("without CLOCKS", none.reads(0), 0);
        none.sheet(0, 1, 24);
        for (int i = 0; i < 23; i++) none.mark(0, i, NONE);
        e.is("the last of 24", none.reads(0), 23);
        none.mark(0, 23, NONE);
        e.is("none of 24", none.reads(0), NONE);
        e.promise(35, "at THE TIME");
        StrokesHeard late = new StrokesHeard();
        late.clock(0, 0, 0);
        Edges.row(late, 0, 0, 12);
        Edges.until(late, 719);
        e.is("at 719", late.reads(0), 0);
        Edges.until(late, 720);
        e.is("at 720", late.reads(0), NONE);
    }

    /** Sheets 0 and 2 of shorts with 5 and 3 places, 1 of floats with 4, 3 missing. */
    private static void copySheets(StrokesHeard x) {
        Edges.row(x, 0, 0, 1, 2, 3, 4, 5);
        Edges.row(x, 1, 1, 7, NONE, 9, -99999);
        Edges.row(x, 2, 0, 10, 20, 30);
    }

    private static void copyRefused(Edges e) {
        e.promise(36, "BAD: no such SHEET");
        e.outside("from", 0, 3, (x, v) -> x.copy(v, 0, 0, 0, 0), BAD);
        e.outside("to", 0, 3, (x, v) -> x.copy(0, 0, v, 0, 0), BAD);
        e.promise(36, "NOTHING: a SHEET is MISSING");
        e.refused("from", SheetEdges::copySheets, x -> x.copy(3, 0, 0, 0, 0), NOTHING);
        e.refused("to", SheetEdges::copySheets, x -> x.copy(0, 0, 3, 0, 0), NOTHING);
        e.refused("both", SheetEdges::copySheets, x -> x.copy(3, 0, 3, 0, 0), NOTHING);
        e.promise(36, "KIND: they are not of one sort");
        e.refused("shorts to floats", SheetEdges::copySheets, x -> x.copy(0, 0, 1, 0, 1), KIND);
        e.refused("floats to shorts", SheetEdges::copySheets, x -> x.copy(1, 0, 0, 0, 1), KIND);
        e.refused("none of them", SheetEdges::copySheets, x -> x.copy(1, 0, 0, 0, 0), KIND);
        e.promise(36, "BAD; NOTHING; KIND; INDEX: of several the one that stands first");
        e.refused("BAD: from, and NOTHING", SheetEdges::copySheets, x -> x.copy(4, 0, 3, 0, 0), BAD);
        e.refused("BAD: to, and NOTHING", SheetEdges::copySheets, x -> x.copy(3, 0, 4, 0, 0), BAD);
        e.refused("BAD and INDEX", SheetEdges::copySheets, x -> x.copy(-1, -1, 0, -1, -1), BAD);
        e.refused("NOTHING and INDEX", SheetEdges::copySheets, x -> x.copy(0, -1, 3, -1, -1), NOTHING);
        e.refused("KIND and INDEX", SheetEdges::copySheets, x -> x.copy(0, -1, 1, -1, -1), KIND);
    }

    private static void index(Edges e, String what, int place, int at, int many) {
        e.refused(what, SheetEdges::copySheets, x -> x.copy(0, place, 2, at, many), INDEX);
        e.refused(what + ", the other way", SheetEdges::copySheets, x -> x.copy(2, at, 0, place, many), INDEX);
    }

    private static void copyIndex(Edges e) {
        e.promise(36, "INDEX: there is no such place, below");
        index(e, "a place of five", -1, 0, 1);
        index(e, "a place of three", 0, -1, 1);
        index(e, "far below", LEAST, 0, 1);
        index(e, "a place of none", -1, 0, 0);
        e.promise(36, "INDEX: there is no such place, above");
        index(e, "one of five", 5, 0, 1);
        index(e, "one of three", 0, 3, 1);
        index(e, "the last of three", 4, 0, 3);
        index(e, "the last of two", 0, 2, 2);
        index(e, "four of three", 0, 0, 4);
        index(e, "far above", GREATEST, 0, 1);
        index(e, "far above, and all", GREATEST, GREATEST, GREATEST);
        index(e, "as many as can be", 1, 1, GREATEST);
        e.promise(36, "INDEX: many below 0");
        index(e, "-1", 1, 1, -1);
        index(e, "the least", 1, 1, LEAST);
        e.promise(36, "none of them: many 0");
        StrokesHeard x = Edges.made(SheetEdges::copySheets);
        e.is("at the first places", x.copy(0, 0, 2, 0, 0), 0);
        e.is("behind the last places", x.copy(0, 5, 2, 3, 0), 0);
        e.alike("nothing has come", x, Edges.made(SheetEdges::copySheets));
        index(e, "further", 6, 0, 0);
        index(e, "further", 0, 4, 0);
    }

    private static void copy(Edges e) {
        e.promise(36, "So many places: all of them");
        StrokesHeard x = Edges.made(SheetEdges::copySheets);
        e.is("many", x.copy(2, 0, 0, 2, 3), 3);
        places(e, x, 0, 1, 2, 10, 20, 30);
        places(e, x, 2, 10, 20, 30);
        e.promise(36, "So many places: one of them");
        e.is("the last to the first", x.copy(0, 4, 2, 0, 1), 1);
        places(e, x, 2, 30, 20, 30);
        e.promise(36, "or the same, as they were");
        StrokesHeard up = Edges.made(SheetEdges::copySheets);
        e.is("up", up.copy(0, 0, 0, 1, 4), 4);
        places(e, up, 0, 1, 1, 2, 3, 4);
        StrokesHeard down = Edges.made(SheetEdges::copySheets);
        e.is("down", down.copy(0, 1, 0, 0, 4), 4);
        places(e, down, 0, 2, 3, 4, 5, 5);
        e.is("onto itself", down.copy(0, 0, 0, 0, 5), 5);
        places(e, down, 0, 2, 3, 4, 5, 5);
        e.promise(36, "NO NUMBER comes as it was");
        e.is("floats", down.copy(1, 1, 1, 0, 3), 3);
        places(e, down, 1, KIND, 9, -99999, -99999);
        e.promise(36, "24 places, and a SHEET of 0 places");
        x.sheet(0, 0, 24);
        x.sheet(2, 0, 24);
        x.mark(0, 23, 5);
        e.is("all", x.copy(0, 0, 2, 0, 24), 24);
        e.is("the last came", Edges.at(x, 2, 23), 5);
        e.is("25", x.copy(0, 0, 2, 0, 25), INDEX);
        x.sheet(0, 0, 0);
        e.is("none of none", x.copy(0, 0, 2, 24, 0), 0);
        e.is("one of none", x.copy(0, 0, 2, 0, 1), INDEX);
    }

    private static void lay(Edges e) {
        e.promise(37, "SLOTS 0 .. 4");
        StrokesHeard x = Edges.made(Edges::rich);
        e.is("the first", x.lay(0, 3, 1), 1);
        e.is("the last", x.lay(4, 3, 2), 0);
        e.is("the first holds", x.rest(0, 9), 1);
        e.is("the last holds", x.rest(4, 9), 2);
        e.outside("slot", 0, 4, (y, v) -> y.lay(v, 3, 0), BAD);
        e.promise(37, "thing 0 .. 3");
        e.is("the first", x.lay(0, 0, 1), 3);
        e.is("the last", x.lay(0, 3, 1), 0);
        e.outside("thing", 0, 3, (y, v) -> y.lay(0, v, 0), BAD);
        e.promise(37, "CLOCK k");
        e.is("the first", x.lay(0, 1, 0), 3);
        e.is("the last", x.lay(0, 1, 2), 1);
        e.outside("clock", 0, 2, (y, v) -> y.lay(2, 1, v), BAD);
        e.refused("of none", y -> { }, y -> y.lay(0, 1, 0), BAD);
        e.promise(37, "SHEET k");
        e.is("the first", x.lay(0, 2, 0), 1);
        x.sheet(3, 1, 1);
        e.is("the last", x.lay(0, 2, 3), 2);
        e.outside("sheet", 0, 3, (y, v) -> y.lay(2, 2, v), BAD);
        e.promise(37, "NOTHING: that SHEET is MISSING");
        e.refused("missing", y -> y.lay(0, 2, 3), NOTHING);
        e.promise(37, "BAD; NOTHING: of several the one that stands first");
        e.refused("no SLOT, and MISSING", y -> y.lay(5, 2, 3), BAD);
        e.promise(37, "the number k: any");
        for (int k : new int[] {LEAST, GREATEST, 0, -1, NONE, BAD}) {
            x.lay(1, 3, k);
            e.is("its rest by 1000", x.rest(1, 1000), k % 1000);
            e.is("it held a number", x.lay(1, 3, k), 3);
        }
        e.promise(37, "nothing, whatever k");
        for (int k : new int[] {LEAST, GREATEST, -1, 6}) {
            x.lay(1, 3, k);
            e.is("k " + k, x.lay(1, 0, k), 3);
            e.is("it holds nothing", x.rest(1, 1), NOTHING);
        }
    }

    private static void layHolds(Edges e) {
        e.promise(37, "what it held (0 .. 3)");
        int[] of = {0, 0, 0, 7};
        for (int before = 0; before < 4; before++) {
            for (int then = 0; then < 4; then++) {
                StrokesHeard x = Edges.made(Edges::rich);
                x.lay(3, before, of[before]);
                e.is(before + ", then " + then, x.lay(3, then, of[then]), before);
                e.is("a CLOCK", x.ask(3, 0), then == 0 ? NOTHING : then == 1 ? 22 : KIND);
                e.is("a SHEET", x.item(3, 0), then == 0 ? NOTHING : then == 2 ? 3 : KIND);
                e.is("a number", x.rest(3, 5), then == 0 ? NOTHING : then == 3 ? 2 : KIND);
            }
        }
        e.promise(37, "a CLOCK (as it is then, for good)");
        StrokesHeard x = Edges.made(Edges::rich);
        x.lay(3, 1, 0);
        x.set(0, 1, 59);
        x.turns(0, 5);
        e.is("TUNE, late by 7", x.ask(3, 3), 22);
        x.sheet(0, 0, 24);
        x.pour(0);
        x.back();
        e.is("still", x.ask(3, 3), 22);
        e.promise(37, "a SHEET (a row of its own, as it was then)");
        x.sheet(0, 1, 2);
        x.mark(0, 1, NONE);
        x.lay(3, 2, 0);
        x.mark(0, 1, 8);
        e.is("NO NUMBER", x.item(3, 1), KIND);
        x.sheet(0, 0, 24);
        e.is("two places", x.item(3, 2), INDEX);
        x.sheet(0, -1, 0);
        e.is("0", x.item(3, 0), 0);
        e.promise(37, "a SHEET with no places is no nothing");
        x.sheet(1, 0, 0);
        e.is("laid", x.lay(3, 2, 1), 2);
        e.is("no place", x.item(3, 0), INDEX);
        e.is("it holds a SHEET", x.lay(3, 0, 0), 2);
    }

    private static void ask(Edges e) {
        e.promise(38, "BAD: no such SLOT");
        e.outside("slot", 0, 4, (x, v) -> x.ask(v, 0), BAD);
        e.promise(38, "a KIND (0 .. 5)");
        e.outside("kind", 0, 5, (x, v) -> x.ask(0, v), BAD);
        e.promise(38, "NOTHING: a SLOT holds nothing");
        e.refused("nothing", x -> x.ask(3, 0), NOTHING);
        e.promise(38, "KIND: it is no CLOCK");
        e.refused("a SHEET", x -> x.ask(1, 0), KIND);
        e.refused("a number", x -> x.ask(2, 0), KIND);
        String[] under = {"0", "01", "02", "013", "024", "05"};
        int[] worths = {59, 63, 1, 126, -4, 2};
        for (int kind = 0; kind < 6; kind++) {
            e.promise(38, "KIND: not of that KIND, nor of one under it, of kind " + kind);
            StrokesHeard x = new StrokesHeard();
            x.clock(kind, 59, 0);
            x.lay(4, 1, 0);
            for (int wanted = 0; wanted < 6; wanted++) {
                boolean is = under[kind].indexOf('0' + wanted) >= 0;
                e.is("taken for " + wanted, x.ask(4, wanted), is ? worths[kind] : KIND);
            }
        }
        e.promise(38, "BAD; NOTHING; KIND: of several the one that stands first");
        e.refused("BAD: kind, and NOTHING", x -> x.ask(3, 6), BAD);
        e.refused("BAD: kind, and no CLOCK", x -> x.ask(2, -1), BAD);
        e.refused("KIND changes nothing", x -> x.ask(0, 1), KIND);
    }

    private static void item(Edges e) {
        e.promise(39, "BAD: slot");
        e.outside("slot", 0, 4, (x, v) -> x.item(v, 0), BAD);
        e.promise(39, "NOTHING: a SLOT holds nothing");
        e.refused("nothing", x -> x.item(3, 0), NOTHING);
        e.promise(39, "KIND: it is no SHEET");
        e.refused("a CLOCK", x -> x.item(0, 0), KIND);
        e.refused("a number", x -> x.item(2, 0), KIND);
        e.promise(39, "INDEX: there is no such place");
        StrokesHeard x = Edges.made(Edges::rich);
        e.is("the first", x.item(1, 0), 12);
        e.is("the last", x.item(1, 3), 61);
        e.outside("place", 0, 3, (y, v) -> y.item(1, v), INDEX);
        x.sheet(0, 0, 24);
        x.mark(0, 23, -32768);
        x.lay(1, 2, 0);
        e.is("the last of 24", x.item(1, 23), -32768);
        e.is("no more", x.item(1, 24), INDEX);
        e.promise(39, "KIND: NO NUMBER");
        e.refused("no number", y -> y.item(1, 1), KIND);
        e.promise(39, "of several the one that stands first");
        e.refused("BAD ahead of INDEX", y -> y.item(5, -1), BAD);
        e.refused("NOTHING ahead of INDEX", y -> y.item(3, -1), NOTHING);
        e.refused("KIND, no SHEET, ahead of INDEX", y -> y.item(2, -1), KIND);
    }

    private static void rest(Edges e) {
        e.promise(40, "BAD: slot");
        e.outside("slot", 0, 4, (x, v) -> x.rest(v, 1), BAD);
        e.promise(40, "NOTHING: a SLOT holds nothing");
        e.refused("nothing", x -> x.rest(3, 1), NOTHING);
        e.promise(40, "KIND: it is no number");
        e.refused("a CLOCK", x -> x.rest(0, 1), KIND);
        e.refused("a SHEET", x -> x.rest(1, 1), KIND);
        e.promise(40, "NO: n is 0");
        e.refused("by 0", x -> x.rest(2, 0), NO);
        StrokesHeard x = new StrokesHeard();
        x.lay(0, 3, 0);
        e.is("0 by 0", x.rest(0, 0), NO);
        e.is("0 by 1", x.rest(0, 1), 0);
        e.is("0 by -1", x.rest(0, -1), 0);
        e.promise(40, "The rest of the number: / cuts towards 0");
        int[][] rests = {{17, 5, 2}, {-17, 5, -2}, {17, -5, 2}, {-17, -5, -2}, {LEAST, -1, 0}, {LEAST, 1, 0},
            {LEAST, LEAST, 0}, {GREATEST, LEAST, GREATEST}, {LEAST, GREATEST, -1}, {4, 5, 4}, {5, 5, 0}};
        for (int[] row : rests) {
            x.lay(0, 3, row[0]);
            e.is(row[0] + " by " + row[1], x.rest(0, row[1]), row[2]);
        }
        e.promise(40, "of several the one that stands first");
        e.refused("BAD ahead of NO", y -> y.rest(5, 0), BAD);
        e.refused("NOTHING ahead of NO", y -> y.rest(3, 0), NOTHING);
        e.refused("KIND ahead of NO", y -> y.rest(0, 0), KIND);
    }
}
