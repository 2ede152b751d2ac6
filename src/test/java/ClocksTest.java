/** Promises 1 to 11: a new object, clocks, the ear, lots. */
public final class ClocksTest {
    private static final int BAD = StrokesHeard.BAD, FULL = StrokesHeard.FULL, KIND = StrokesHeard.KIND;
    private static final Due due = new Due();

    private static StrokesHeard oneOfEachKind(int off) {
        StrokesHeard x = new StrokesHeard();
        for (int kind = 0; kind < 6; kind++) {
            due.is("clock", x.clock(kind, off, kind + 3), kind);
        }
        return x;
    }

    private static void newObject() {
        StrokesHeard x = new StrokesHeard();
        int[] counts = {0, 0, 100, 0, 0, 0, 0, 1};
        for (int what = 0; what < 8; what++) due.is("count " + what, x.count(what), counts[what]);
        for (int what = 0; what < 4; what++) due.is("bed " + what, x.bed(what), 0);
        for (int k = 0; k < 12; k++) due.is("note " + k, x.note(k), StrokesHeard.NONE);
        for (int s = 0; s < 4; s++) due.is("reads " + s, x.reads(s), StrokesHeard.NOTHING);
        for (int s = 0; s < 5; s++) due.is("ask " + s, x.ask(s, 0), StrokesHeard.NOTHING);
        for (int key = 0; key < 3; key++) due.is("why " + key, x.why(key), StrokesHeard.NONE);
        due.is("back", x.back(), StrokesHeard.NO);
        due.is("told", x.told(0, 0), BAD);
        due.is("total", x.total(0), 0);
    }

    private static void clockAndTold() {
        StrokesHeard x = oneOfEachKind(59);
        due.is("bad is said first", x.clock(6, 0, 0), BAD);
        due.is("kind below", x.clock(-1, 0, 0), BAD);
        due.is("off below", x.clock(0, -1, 0), BAD);
        due.is("off above", x.clock(0, 60, 0), BAD);
        due.is("tone below", x.clock(0, 0, -1), BAD);
        due.is("tone above", x.clock(0, 0, 10), BAD);
        due.is("full", x.clock(0, 0, 0), FULL);
        due.is("six", x.count(0), 6);
        int[] sums = {78, 150, 156, 198, 68, 90};
        int[] worths = {59, 63, 1, 126, -4, 2};
        for (int c = 0; c < 6; c++) {
            due.is("kind " + c, x.told(c, 0), c);
            due.is("off " + c, x.told(c, 1), 59);
            due.is("tone " + c, x.told(c, 2), c + 3);
            due.is("now " + c, x.told(c, 3), 0);
            due.is("all " + c, x.told(c, 4), sums[c]);
            due.is("worth " + c, x.told(c, 5), worths[c]);
        }
        due.is("what below", x.told(0, -1), BAD);
        due.is("what above", x.told(0, 6), BAD);
        due.is("clock below", x.told(-1, 0), BAD);
        due.is("clock above", x.told(6, 0), BAD);
        x.minutes(59);
        int[] first = {12, 12, 12, 16, 4, 12};
        for (int c = 0; c < 6; c++) due.is("at 59 " + c, x.told(c, 3), first[c]);
    }

    private static void asAndTurns() {
        StrokesHeard x = oneOfEachKind(0);
        boolean[][] under = {
            {true, false, false, false, false, false}, {true, true, false, false, false, false},
            {true, false, true, false, false, false}, {true, true, false, true, false, false},
            {true, false, true, false, true, false}, {true, false, false, false, false, true}};
        for (int c = 0; c < 6; c++) {
            for (int kind = 0; kind < 6; kind++) {
                due.is("as " + c + " " + kind, x.as(c, kind), under[c][kind] ? c + 3 : KIND);
            }
        }
        due.is("as clock", x.as(6, 0), BAD);
        due.is("as clock below", x.as(-1, 0), BAD);
        due.is("as kind", x.as(0, 6), BAD);
        due.is("as kind below", x.as(0, -1), BAD);
        due.is("turns", x.turns(3, 5), 3);
        due.is("turned", x.told(3, 0), 5);
        due.is("turned back", x.turns(3, 3), 5);
        due.is("turns clock", x.turns(6, 0), BAD);
        due.is("turns kind", x.turns(0, 6), BAD);
        due.is("turns kind below", x.turns(0, -1), BAD);
        due.is("not turned", x.told(0, 0), 0);
    }

    private static void set() {
        StrokesHeard x = oneOfEachKind(7);
        due.is("off", x.set(2, 1, 59), 7);
        due.is("off again", x.set(2, 1, 0), 59);
        due.is("tone", x.set(2, 2, 9), 5);
        due.is("tone again", x.set(2, 2, 0), 9);
        due.is("off above", x.set(2, 1, 60), BAD);
        due.is("off below", x.set(2, 1, -1), BAD);
        due.is("tone above", x.set(2, 2, 10), BAD);
        due.is("tone below", x.set(2, 2, -1), BAD);
        due.is("what 0", x.set(2, 0, 1), BAD);
        due.is("what 3", x.set(2, 3, 1), BAD);
        due.is("clock", x.set(6, 1, 1), BAD);
        due.is("off stays", x.told(2, 1), 0);
        due.is("tone stays", x.told(2, 2), 0);
    }

    private static void strokesAndTotal() {
        StrokesHeard x = oneOfEachKind(0);
        int[] minutes = {0, 1, 2, 15, 29, 30, 45, 59};
        int[][] atFive = {{5, 0, 0, 0, 0, 0, 0, 0}, {5, 0, 0, 1, 0, 2, 3, 0}, {5, 0, 5, 0, 0, 0, 0, 0},
            {9, 0, 0, 1, 0, 2, 3, 0}, {1, 0, 1, 0, 0, 0, 0, 0}, {5, 0, 0, 0, 0, 1, 0, 0}};
        for (int m = 0; m < minutes.length; m++) {
            int sum = 0;
            for (int c = 0; c < 6; c++) {
                due.is("strokes " + c + " at 5:" + minutes[m], x.strokes(c, 300 + minutes[m]), atFive[c][m]);
                sum += atFive[c][m];
            }
            due.is("total at 5:" + minutes[m], x.total(300 + minutes[m]), sum);
        }
        int[] bySign = {4, 1, 2, 3, 4, 1, 2, 3, 4, 5, 2, 3};
        for (int hour = 0; hour < 12; hour++) {
            due.is("by ones and fives " + hour, x.strokes(4, hour * 60), bySign[hour]);
            due.is("plain " + hour, x.strokes(0, hour * 60), hour == 0 ? 12 : hour);
        }
        due.is("strokes time", x.strokes(0, 720), BAD);
        due.is("strokes time below", x.strokes(0, -1), BAD);
        due.is("strokes clock", x.strokes(6, 0), BAD);
        due.is("total time", x.total(720), BAD);
        due.is("total time below", x.total(-1), BAD);
        x.set(0, 1, 59);
        due.is("late", x.strokes(0, 59), 12);
        due.is("late, the hour before", x.strokes(0, 719), 11);
        due.is("late, not yet", x.strokes(0, 0), 0);
        x.set(2, 1, 59);
        due.is("late again, beyond the hour", x.strokes(2, 61), 12);
        due.is("late again, round", x.strokes(2, 1), 11);
    }

    private static void ear() {
        StrokesHeard x = new StrokesHeard();
        due.is("ear", x.ear(0, 0), 100);
        due.is("ear again", x.ear(0, 100), 0);
        due.is("noise", x.ear(1, 100), 0);
        due.is("noise again", x.ear(1, 3), 100);
        due.is("what", x.ear(2, 0), BAD);
        due.is("what below", x.ear(-1, 0), BAD);
        due.is("v", x.ear(0, 101), BAD);
        due.is("v below", x.ear(1, -1), BAD);
        due.is("ear stays", x.count(2), 100);
        due.is("noise stays", x.count(3), 3);
    }

    /** The draws told once more, so that z and what comes of it can be followed. */
    private static void dealAndSeed() {
        StrokesHeard x = new StrokesHeard();
        due.is("seed", x.seed(-77), 1);
        due.is("z", x.count(7), -77);
        due.is("none", x.deal(0), BAD);
        due.is("seven", x.deal(7), BAD);
        due.is("no draw yet", x.count(7), -77);
        due.is("four", x.deal(4), 4);
        due.is("two more have room", x.deal(6), 2);
        int z = -77;
        for (int c = 0; c < 6; c++) {
            int[] bounds = {6, 10, 10};
            for (int what = 0; what < 3; what++) {
                z = z * 1103515245 + 12345;
                due.is("drawn " + c + " " + what, x.told(c, what), (z >>> 8) % bounds[what]);
            }
        }
        due.is("z behind eighteen draws", x.count(7), z);
        due.is("no room", x.deal(1), 0);
        due.is("no draws for others", x.seed(Integer.MIN_VALUE), z);
        due.is("any seed", x.count(7), Integer.MIN_VALUE);
    }

    public static void main(String[] args) {
        newObject();
        clockAndTold();
        asAndTurns();
        set();
        strokesAndTotal();
        ear();
        dealAndSeed();
        due.end();
    }
}
