/** Edges of promises 41 to 45: numbers that wait, images, counts. */
final class ImageEdges {
    private static final int BAD = StrokesHeard.BAD, NO = StrokesHeard.NO, FULL = StrokesHeard.FULL;

    static void all(Edges e) {
        tell(e);
        checkBounds(e);
        noneWait(e);
        check(e);
        checkAtTheEnd(e);
        keep(e);
        back(e);
        left(e);
        count(e);
    }

    private static void tellAll(StrokesHeard x, int... numbers) {
        for (int v : numbers) x.tell(v);
    }

    private static void sixty(StrokesHeard x) {
        Edges.rich(x);
        for (int i = x.count(5); i < 60; i++) x.tell(i);
    }

    private static void tell(Edges e) {
        e.promise(41, "One more number waits: how many");
        StrokesHeard x = new StrokesHeard();
        for (int i = 1; i <= 60; i++) e.is("number " + i, x.tell(StrokesHeard.NONE), i);
        e.promise(41, "FULL: 60 wait");
        e.refused("the sixty-first", ImageEdges::sixty, y -> y.tell(0), FULL);
        e.promise(41, "room again, when none wait");
        x.check(1);
        e.is("the first", x.tell(0), 1);
        e.promise(41, "any number");
        StrokesHeard y = new StrokesHeard();
        y.keep();
        tellAll(y, 0, Integer.MIN_VALUE);
        e.is("the least is not 0", y.check(1), 2);
        tellAll(y, 0, Integer.MAX_VALUE);
        e.is("the greatest is not 0", y.check(1), 2);
        tellAll(y, BAD, 0);
        e.is("no number is a refusal", y.check(1), 1);
    }

    private static void checkBounds(Edges e) {
        e.promise(42, "n (1 .. 30)");
        StrokesHeard x = new StrokesHeard();
        x.keep();
        tellAll(x, 0, 0);
        e.is("least", x.check(1), 0);
        tellAll(x, new int[60]);
        e.is("greatest", x.check(30), 0);
        for (int n : new int[] {0, 31, -1, Integer.MIN_VALUE, Integer.MAX_VALUE}) {
            StrokesHeard y = Edges.made(Edges::rich);
            e.is("n " + n, y.check(n), BAD);
            e.alike("nothing else changes", y, Edges.made(ImageEdges::richWithoutNumbers));
        }
        e.promise(42, "NO: there is no IMAGE");
        StrokesHeard y = new StrokesHeard();
        tellAll(y, 0, 0);
        e.is("none", y.check(1), NO);
        e.is("none, and nothing waits", y.check(30), NO);
        e.promise(42, "BAD; NO: of several the one that stands first");
        e.is("below", y.check(0), BAD);
        e.is("above", y.check(31), BAD);
    }

    private static void richWithoutNumbers(StrokesHeard x) {
        Edges.rich(x);
        x.check(1);
    }

    private static void noneWait(Edges e) {
        e.promise(42, "none do then, whatever is answered");
        StrokesHeard x = new StrokesHeard();
        tellAll(x, 0, 0);
        x.check(0);
        e.is("BAD", x.count(5), 0);
        tellAll(x, 0, 0);
        x.check(1);
        e.is("NO", x.count(5), 0);
        x.keep();
        tellAll(x, 0, 0);
        e.is("right", x.check(1), 0);
        e.is("none wait", x.count(5), 0);
        tellAll(x, 5, 0);
        e.is("the first is not", x.check(1), 1);
        e.is("none wait", x.count(5), 0);
        tellAll(x, 0);
        e.is("they don't wait any more", x.check(1), 2);
    }

    private static void check(Edges e) {
        StrokesHeard x = new StrokesHeard();
        x.clock(2, 0, 0);
        x.minutes(1);
        x.keep();
        // HEARD is 12; the minutes that come are 1 (silent), 2 (twelve again), 3 (silent)
        e.promise(42, "HEARD; the newest NOTE, behind each, two by two: 0");
        tellAll(x, 12, 0, 24, 12, 24, 0);
        e.is("three", x.check(3), 0);
        e.promise(42, "1 and how many stand right ahead of the first that is not");
        int[] due = {12, 0, 24, 12, 24, 0};
        for (int wrong = 0; wrong < 6; wrong++) {
            for (int i = 0; i < 6; i++) x.tell(i >= wrong ? due[i] + 1 : due[i]);
            e.is("from " + wrong + " on", x.check(3), 1 + wrong);
        }
        e.promise(42, "or is missing");
        for (int many = 0; many < 6; many++) {
            for (int i = 0; i < many; i++) x.tell(due[i]);
            e.is("only " + many, x.check(3), 1 + many);
        }
        e.promise(42, "or one too many");
        for (int n = 1; n < 3; n++) {
            tellAll(x, due);
            e.is("for " + n, x.check(n), 1 + 2 * n);
        }
        tellAll(x, due);
        x.tell(24);
        e.is("one", x.check(3), 7);
        e.promise(42, "of 60 that wait the last");
        StrokesHeard silent = new StrokesHeard();
        silent.keep();
        tellAll(silent, new int[59]);
        silent.tell(1);
        e.is("it is not", silent.check(30), 60);
        tellAll(silent, new int[59]);
        e.is("it is missing", silent.check(30), 60);
        tellAll(silent, new int[60]);
        e.is("it is one too many, with one more", silent.check(29), 59);
        e.promise(42, "by THE IMAGE, which stays, as all does");
        StrokesHeard y = Edges.made(Edges::rich);
        y.check(30);
        e.alike("nothing else changes", y, Edges.made(ImageEdges::richWithoutNumbers));
    }

    private static StrokesHeard keptAt(int minute) {
        StrokesHeard x = new StrokesHeard();
        Edges.until(x, minute);
        x.keep();
        return x;
    }

    private static void checkAtTheEnd(Edges e) {
        e.promise(42, "fewer, if THE MINUTE would be above 9999: not yet");
        StrokesHeard x = keptAt(9969);
        tellAll(x, new int[60]);
        e.is("thirty are left", x.check(30), 0);
        e.promise(42, "fewer, if THE MINUTE would be above 9999: one less");
        x = keptAt(9970);
        tellAll(x, new int[58]);
        e.is("twenty-nine are left", x.check(30), 0);
        tellAll(x, new int[59]);
        e.is("one too many", x.check(30), 59);
        tellAll(x, new int[57]);
        e.is("one is missing", x.check(30), 58);
        e.promise(42, "fewer, if THE MINUTE would be above 9999: one is left");
        x = keptAt(9998);
        tellAll(x, 0, 0);
        e.is("of thirty", x.check(30), 0);
        tellAll(x, 0, 0);
        e.is("of one", x.check(1), 0);
        e.promise(42, "fewer, if THE MINUTE would be above 9999: none is left");
        x = keptAt(9999);
        e.is("none", x.check(30), 0);
        e.is("none of one", x.check(1), 0);
        x.tell(0);
        e.is("one too many", x.check(1), 1);
        e.promise(42, "THE MINUTE of THE IMAGE, not that of now");
        x = keptAt(9000);
        Edges.until(x, 9999);
        tellAll(x, new int[60]);
        e.is("thirty", x.check(30), 0);
    }

    private static void keep(Edges e) {
        e.promise(43, "AN IMAGE is kept: how many CLOCKS");
        StrokesHeard x = new StrokesHeard();
        e.is("none", x.keep(), 0);
        x.deal(6);
        e.is("six", x.keep(), 6);
        e.promise(43, "the newest one counts");
        x.back();
        e.is("six are back", x.count(0), 6);
        e.promise(43, "it keeps nothing of what comes behind it");
        int off = x.told(5, 1);
        x.set(5, 1, off + 1);
        x.back();
        e.is("OFF", x.told(5, 1), off);
        e.promise(43, "keep changes nothing but THE IMAGE");
        StrokesHeard y = Edges.made(Edges::rich);
        y.keep();
        StrokesHeard twin = Edges.made(Edges::rich);
        y.check(1);
        twin.check(1);
        e.is("CLOCKS", y.count(0), twin.count(0));
        y.back();
        twin.keep();
        e.alike("as it is", y, twin);
    }

    private static void back(Edges e) {
        e.promise(44, "NO: there is none");
        e.refused("none", x -> x.deal(3), x -> x.back(), NO);
        e.promise(44, "All is as THE IMAGE: how many CLOCKS");
        StrokesHeard none = new StrokesHeard();
        none.keep();
        none.deal(6);
        e.is("none", none.back(), 0);
        e.is("all have gone", none.told(0, 0), BAD);
        e.is("six have room", none.deal(6), 6);
        none.keep();
        e.is("six", none.back(), 6);
        e.promise(44, "again and again");
        StrokesHeard x = Edges.made(Edges::rich);
        StrokesHeard twin = Edges.made(Edges::rich);
        for (int i = 0; i < 3; i++) {
            e.is("back", x.back(), 1);
            x.deal(6);
            x.minutes(100);
            x.ear(0, i);
            x.ear(1, i);
            x.seed(i);
            x.turns(0, 5);
            x.set(0, 1, 50 + i);
            x.set(0, 2, 6 + i);
        }
        x.back();
        int[] clock = {3, 7, 2};
        for (int what = 0; what < 3; what++) e.is("told " + what, x.told(0, what), clock[what]);
        int[] counts = {1, 9, 60, 30, 1};
        for (int what = 0; what < 5; what++) e.is("count " + what, x.count(what), counts[what]);
        twin.back();
        e.alike("as it was kept", x, twin);
        e.promise(44, "NOTES go back, and with them how many there are");
        StrokesHeard y = new StrokesHeard();
        y.clock(0, 0, 0);
        y.minutes(1);
        y.keep();
        y.minutes(100);
        y.back();
        e.is("one", y.bed(3), 1);
        e.is("it", y.note(0), 12);
        e.is("no other", y.note(1), StrokesHeard.NONE);
        e.promise(44, "TEXTS go back, and which counts");
        Due.read(y, "fee 1");
        y.keep();
        Due.read(y, "fee 2");
        Due.read(y, "fine 3");
        y.back();
        e.is("one", y.count(4), 1);
        e.is("fee", y.fee(), 1);
        e.is("fine", y.why(2), StrokesHeard.NONE);
        e.is("OFF", y.fine(0), 0);
        e.is("the second is gone", y.textTold(1, 0), BAD);
        e.is("another is the second", Due.read(y, "again 3"), 1);
        e.is("its KEY", y.textTold(1, 0), 0);
        e.promise(44, "from 9999 back: MINUTES pass again");
        Edges.until(y, 9999);
        e.is("none is left", y.minutes(60), 0);
        y.back();
        e.is("one o'clock", y.minutes(60), 1);
        e.is("THE MINUTE", y.count(1), 61);
    }

    private static void left(Edges e) {
        e.promise(44, "AN IMAGE keeps all but SHEETS");
        StrokesHeard x = new StrokesHeard();
        x.sheet(0, 0, 1);
        x.keep();
        x.mark(0, 0, 7);
        x.sheet(1, 1, 2);
        x.back();
        e.is("a place", Edges.at(x, 0, 0), 7);
        e.is("a SHEET", Edges.at(x, 1, 1), 0);
        x.sheet(0, -1, 0);
        x.back();
        e.is("MISSING", x.reads(0), StrokesHeard.NOTHING);
        e.promise(44, "AN IMAGE keeps all but SLOTS");
        x.clock(1, 9, 0);
        x.lay(0, 1, 0);
        x.lay(1, 3, 8);
        x.back();
        e.is("a CLOCK that is no more", x.ask(0, 1), 13);
        e.is("a number", x.rest(1, 9), 8);
        e.promise(44, "AN IMAGE keeps all but numbers that wait");
        tellAll(x, 1, 2, 3);
        x.back();
        e.is("three", x.count(5), 3);
        x.keep();
        e.is("three wait behind keep too", x.count(5), 3);
        e.promise(44, "AN IMAGE keeps all but THE TAPE");
        Due.put(x, "fee 5");
        x.back();
        e.is("five bytes", x.count(6), 5);
        e.is("as they were", x.text(), 0);
        x.back();
        e.is("used up", x.count(6), 0);
    }

    private static void count(Edges e) {
        e.promise(45, "0 .. 7");
        StrokesHeard x = Edges.made(Edges::rich);
        int[] counts = {3, 79, 80, 10, 2, 4, 10};
        for (int what = 0; what < 7; what++) e.is("what " + what, x.count(what), counts[what]);
        x.seed(-5);
        e.is("what 7", x.count(7), -5);
        e.outside("what", 0, 7, (y, v) -> y.count(v), BAD);
        e.promise(45, "each as great as it can be");
        StrokesHeard y = new StrokesHeard();
        y.deal(6);
        Edges.until(y, 9999);
        y.minutes(1);
        y.ear(1, 100);
        for (int i = 0; i < 15; i++) Due.read(y, "fee 1");
        for (int i = 0; i < 61; i++) y.tell(i);
        for (int i = 0; i < 9; i++) y.feed(0, 0, 0);
        y.seed(Integer.MAX_VALUE);
        int[] most = {6, 9999, 100, 100, 14, 60, 96, Integer.MAX_VALUE};
        for (int what = 0; what < 8; what++) e.is("what " + what, y.count(what), most[what]);
    }
}
