/** Promises 32 to 40: sheets and slots. */
public final class SheetsTest {
    private static final int BAD = StrokesHeard.BAD, NONE = StrokesHeard.NONE, NOTHING = StrokesHeard.NOTHING;
    private static final int KIND = StrokesHeard.KIND, INDEX = StrokesHeard.INDEX, SIZE = StrokesHeard.SIZE;
    private static final Due due = new Due();

    /** A place of a sheet, told by way of a slot. */
    private static int at(StrokesHeard x, int sheet, int place) {
        x.lay(4, 2, sheet);
        return x.item(4, place);
    }

    private static void row(StrokesHeard x, int sheet, int sort, int... values) {
        x.sheet(sheet, sort, values.length);
        for (int i = 0; i < values.length; i++) due.is("mark", x.mark(sheet, i, values[i]), 1);
    }

    private static void sheet() {
        StrokesHeard x = new StrokesHeard();
        due.is("shorts", x.sheet(0, 0, 24), 24);
        due.is("floats", x.sheet(3, 1, 1), 1);
        due.is("no places", x.sheet(1, 1, 0), 0);
        due.is("sheet above", x.sheet(4, 0, 1), BAD);
        due.is("sheet below", x.sheet(-1, 0, -1), BAD);
        due.is("sort above", x.sheet(0, 2, 1), BAD);
        due.is("sort below", x.sheet(0, -2, -1), BAD);
        due.is("too many", x.sheet(0, 0, 25), BAD);
        due.is("below none", x.sheet(0, 0, -1), SIZE);
        due.is("stays", at(x, 0, 23), 0);
        x.mark(0, 23, 5);
        due.is("marked", at(x, 0, 23), 5);
        due.is("anew", x.sheet(0, 0, 24), 24);
        due.is("all 0", at(x, 0, 23), 0);
        due.is("missing, n any", x.sheet(0, -1, -7), 0);
        due.is("is missing", x.mark(0, 0, 0), NOTHING);
        due.is("missing, n large", x.sheet(0, -1, 99), 0);
    }

    private static void mark() {
        StrokesHeard x = new StrokesHeard();
        due.is("sheet is looked at first", x.mark(4, 99, NONE), BAD);
        due.is("sheet below", x.mark(-1, 0, 0), BAD);
        due.is("missing", x.mark(0, 99, NONE), NOTHING);
        x.sheet(0, 0, 3);
        x.sheet(1, 1, 3);
        due.is("place above", x.mark(0, 3, NONE), INDEX);
        due.is("place below", x.mark(1, -1, 999999), INDEX);
        due.is("none in shorts", x.mark(0, 2, NONE), KIND);
        due.is("short", x.mark(0, 0, 32768), 1);
        due.is("lowest bits", at(x, 0, 0), -32768);
        due.is("short", x.mark(0, 1, -65537), 1);
        due.is("lowest bits", at(x, 0, 1), -1);
        due.is("not touched", at(x, 0, 2), 0);
        due.is("float", x.mark(1, 0, 99999), 1);
        due.is("float", x.mark(1, 1, -99999), 1);
        due.is("most", at(x, 1, 0), 99999);
        due.is("least", at(x, 1, 1), -99999);
        due.is("above", x.mark(1, 0, 100000), BAD);
        due.is("below", x.mark(1, 0, -100000), BAD);
        due.is("stays", at(x, 1, 0), 99999);
        due.is("no number", x.mark(1, 0, NONE), 1);
        due.is("is no number", at(x, 1, 0), KIND);
    }

    private static void pour() {
        StrokesHeard x = new StrokesHeard();
        for (int i = 0; i < 5; i++) x.clock(0, 10 + i, 0);
        due.is("sheet", x.pour(4), BAD);
        due.is("missing", x.pour(0), NOTHING);
        row(x, 0, 1, 99, -5, NONE, 13);
        due.is("two are otherwise", x.pour(0), 2);
        int[] offs = {59, 0, 12, 13, 14};
        for (int i = 0; i < 5; i++) due.is("off " + i, x.told(i, 1), offs[i]);
        due.is("none is then", x.pour(0), 0);
        row(x, 1, 0, 1, 2, 3, 4, 5, 6, 7, 8);
        due.is("beyond the clocks", x.pour(1), 5);
        due.is("last", x.told(4, 1), 5);
        due.is("no more clocks", x.count(0), 5);
    }

    private static void reads() {
        StrokesHeard x = new StrokesHeard();
        x.clock(0, 0, 0);
        x.clock(3, 0, 0);
        x.clock(0, 1, 0);
        due.is("sheet", x.reads(-1), BAD);
        due.is("missing", x.reads(2), NOTHING);
        row(x, 0, 1, 12, 16, 0);
        due.is("right", x.reads(0), NONE);
        x.mark(0, 1, 15);
        due.is("the second", x.reads(0), 1);
        x.mark(0, 1, NONE);
        due.is("no number is passed over", x.reads(0), NONE);
        row(x, 1, 1, 12, 16, 0, NONE, 0);
        due.is("no clock there", x.reads(1), 4);
        x.mark(1, 4, NONE);
        due.is("no numbers there", x.reads(1), NONE);
        x.sheet(2, 0, 0);
        due.is("no places", x.reads(2), NONE);
        x.minutes(1);
        due.is("another minute", x.reads(1), 0);
        row(x, 3, 0, 0, 0, 12);
        due.is("of this one", x.reads(3), NONE);
    }

    private static void copy() {
        StrokesHeard x = new StrokesHeard();
        row(x, 0, 0, 1, 2, 3, 4, 5);
        row(x, 1, 0, 10, 20, 30);
        row(x, 2, 1, 7, NONE, 9);
        due.is("from", x.copy(4, 0, 0, 0, 0), BAD);
        due.is("to", x.copy(0, 0, -1, 0, 0), BAD);
        due.is("to is looked at ahead of missing", x.copy(3, 0, 4, 0, 0), BAD);
        due.is("from missing", x.copy(3, 0, 0, 0, 99), NOTHING);
        due.is("to missing", x.copy(0, 0, 3, 0, 99), NOTHING);
        due.is("not of one sort", x.copy(0, 99, 2, 0, 1), KIND);
        due.is("beyond from", x.copy(1, 1, 0, 0, 3), INDEX);
        due.is("beyond to", x.copy(0, 0, 1, 1, 3), INDEX);
        due.is("place below", x.copy(0, -1, 1, 0, 1), INDEX);
        due.is("at below", x.copy(0, 0, 1, -1, 1), INDEX);
        due.is("many below", x.copy(0, 1, 1, 1, -1), INDEX);
        due.is("far", x.copy(0, 1, 1, 1, Integer.MAX_VALUE), INDEX);
        due.is("far place", x.copy(0, Integer.MAX_VALUE, 1, 0, 1), INDEX);
        due.is("none, behind the last", x.copy(0, 5, 1, 3, 0), 0);
        due.is("none, further", x.copy(0, 6, 1, 0, 0), INDEX);
        due.is("stays", at(x, 1, 0), 10);
        due.is("two", x.copy(0, 3, 1, 1, 2), 2);
        int[] one = {10, 4, 5};
        for (int i = 0; i < 3; i++) due.is("one " + i, at(x, 1, i), one[i]);
        due.is("onto itself, up", x.copy(0, 0, 0, 1, 4), 4);
        int[] zero = {1, 1, 2, 3, 4};
        for (int i = 0; i < 5; i++) due.is("zero " + i, at(x, 0, i), zero[i]);
        due.is("onto itself, down", x.copy(0, 1, 0, 0, 4), 4);
        int[] again = {1, 2, 3, 4, 4};
        for (int i = 0; i < 5; i++) due.is("again " + i, at(x, 0, i), again[i]);
        due.is("floats", x.copy(2, 1, 2, 0, 2), 2);
        due.is("no number too", at(x, 2, 0), KIND);
        due.is("nine", at(x, 2, 1), 9);
    }

    private static void lay() {
        StrokesHeard x = new StrokesHeard();
        x.clock(3, 5, 1);
        row(x, 0, 0, 41, 42);
        due.is("slot", x.lay(5, 0, 0), BAD);
        due.is("slot below", x.lay(-1, 0, 0), BAD);
        due.is("thing", x.lay(0, 4, 0), BAD);
        due.is("thing below", x.lay(0, -1, 0), BAD);
        due.is("clock", x.lay(0, 1, 1), BAD);
        due.is("clock below", x.lay(0, 1, -1), BAD);
        due.is("sheet", x.lay(0, 2, 4), BAD);
        due.is("sheet below", x.lay(0, 2, -1), BAD);
        due.is("missing", x.lay(0, 2, 3), NOTHING);
        due.is("held nothing", x.lay(0, 3, Integer.MIN_VALUE), 0);
        due.is("held a number", x.lay(0, 1, 0), 3);
        due.is("held a clock", x.lay(0, 2, 0), 1);
        due.is("held a sheet", x.lay(0, 0, 99), 2);
        due.is("held nothing", x.lay(0, 0, -99), 0);
        due.is("a refused one changes nothing", x.lay(0, 1, 9), BAD);
        due.is("still nothing", x.ask(0, 0), NOTHING);
    }

    private static void ask() {
        StrokesHeard x = new StrokesHeard();
        x.clock(3, 5, 1);
        x.clock(4, 5, 1);
        x.lay(0, 1, 0);
        x.lay(1, 1, 1);
        x.lay(2, 3, 17);
        due.is("slot", x.ask(5, 0), BAD);
        due.is("slot below", x.ask(-1, 0), BAD);
        due.is("kind", x.ask(3, 6), BAD);
        due.is("kind below", x.ask(0, -1), BAD);
        due.is("nothing", x.ask(3, 0), NOTHING);
        due.is("no clock", x.ask(2, 0), KIND);
        int[] tune = {18, 18, KIND, 18, KIND, KIND};
        int[] sign = {50, KIND, 50, KIND, 50, KIND};
        for (int kind = 0; kind < 6; kind++) {
            due.is("tune as " + kind, x.ask(0, kind), tune[kind]);
            due.is("sign as " + kind, x.ask(1, kind), sign[kind]);
        }
        x.set(0, 1, 50);
        x.turns(0, 0);
        due.is("as it was then", x.ask(0, 3), 18);
    }

    private static void item() {
        StrokesHeard x = new StrokesHeard();
        row(x, 0, 1, 41, NONE);
        x.clock(0, 0, 0);
        x.lay(0, 2, 0);
        x.lay(1, 1, 0);
        x.mark(0, 0, 7);
        x.sheet(0, -1, 0);
        due.is("as it was then", x.item(0, 0), 41);
        due.is("no number", x.item(0, 1), KIND);
        due.is("place above", x.item(0, 2), INDEX);
        due.is("place below", x.item(0, -1), INDEX);
        due.is("slot", x.item(5, 0), BAD);
        due.is("slot below", x.item(-1, 0), BAD);
        due.is("nothing", x.item(2, 99), NOTHING);
        due.is("no sheet", x.item(1, 99), KIND);
    }

    private static void rest() {
        StrokesHeard x = new StrokesHeard();
        x.clock(0, 0, 0);
        x.lay(0, 3, -17);
        x.lay(1, 1, 0);
        x.lay(2, 3, Integer.MIN_VALUE);
        due.is("below 0", x.rest(0, 5), -2);
        due.is("by below 0", x.rest(0, -5), -2);
        due.is("least by -1", x.rest(2, -1), 0);
        due.is("by 0", x.rest(0, 0), StrokesHeard.NO);
        due.is("no number", x.rest(1, 0), KIND);
        due.is("nothing", x.rest(3, 0), NOTHING);
        due.is("slot", x.rest(5, 0), BAD);
        due.is("slot below", x.rest(-1, 1), BAD);
    }

    public static void main(String[] args) {
        sheet();
        mark();
        pour();
        reads();
        copy();
        lay();
        ask();
        item();
        rest();
        due.end();
    }
}
