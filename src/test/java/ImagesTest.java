/** Promises 41 to 45: numbers that wait, images, counts. */
public final class ImagesTest {
    private static final int BAD = StrokesHeard.BAD, NO = StrokesHeard.NO, FULL = StrokesHeard.FULL;
    private static final Due due = new Due();

    private static int check(StrokesHeard x, int n, int... told) {
        for (int v : told) x.tell(v);
        int answer = x.check(n);
        due.is("none wait", x.count(5), 0);
        return answer;
    }

    private static void tell() {
        StrokesHeard x = new StrokesHeard();
        for (int i = 1; i <= 60; i++) due.is("tell", x.tell(-i), i);
        due.is("sixty wait", x.tell(0), FULL);
        due.is("sixty", x.count(5), 60);
        due.is("no image", x.check(1), NO);
        due.is("none wait then", x.count(5), 0);
        x.tell(0);
        due.is("n is looked at first", x.check(0), BAD);
        due.is("none wait then", x.count(5), 0);
        due.is("thirty-one", x.check(31), BAD);
    }

    private static void checkRows() {
        StrokesHeard x = new StrokesHeard();
        x.clock(1, 0, 0);
        x.minutes(14);
        x.keep();
        x.clock(0, 0, 0);
        x.minutes(50);
        x.ear(0, 0);
        int seed = x.count(7);
        due.is("two right", check(x, 2, 12, 0, 13, 1), 0);
        due.is("the first is not", check(x, 2, 11, 0, 13, 1), 1);
        due.is("the second is not", check(x, 2, 12, 1, 13, 1), 2);
        due.is("the last is not", check(x, 2, 12, 0, 13, 0), 4);
        due.is("all are missing", check(x, 2), 1);
        due.is("the last is missing", check(x, 2, 12, 0, 13), 4);
        due.is("one too many", check(x, 2, 12, 0, 13, 1, 13), 5);
        due.is("two too many", check(x, 1, 12, 0, 13, 1), 3);
        due.is("again and again", check(x, 1, 12, 0), 0);
        due.is("nothing else changed", x.count(7), seed);
        due.is("minute", x.count(1), 64);
        int[] thirty = new int[60];
        for (int i = 0; i < 30; i++) {
            thirty[2 * i] = 12 + (i >= 1 ? 1 : 0) + (i >= 16 ? 2 : 0);
            thirty[2 * i + 1] = i == 1 ? 1 : i == 16 ? 2 : 0;
        }
        due.is("thirty", check(x, 30, thirty), 0);
    }

    private static void checkAtTheEnd() {
        StrokesHeard x = new StrokesHeard();
        for (int i = 0; i < 99; i++) x.minutes(100);
        x.minutes(97);
        x.keep();
        due.is("two are left", check(x, 30, 0, 0, 0, 0), 0);
        due.is("one too many", check(x, 30, 0, 0, 0, 0, 0), 5);
        x.minutes(100);
        x.keep();
        due.is("none is left", check(x, 30), 0);
        due.is("any is too many", check(x, 30, 0), 1);
    }

    private static void back() {
        StrokesHeard x = new StrokesHeard();
        due.is("no image", x.back(), NO);
        x.clock(2, 3, 4);
        x.ear(0, 70);
        x.ear(1, 20);
        Due.read(x, "again 9");
        Due.read(x, "fee e+m");
        x.minutes(20);
        int[] was = all(x);
        due.is("kept", x.keep(), 1);
        for (int round = 0; round < 2; round++) {
            x.set(0, 1, 50 + round);
            x.set(0, 2, 9);
            x.turns(0, 4);
            x.clock(0, 0, 0);
            x.ear(0, 1);
            x.ear(1, 99);
            Due.read(x, "again 4");
            Due.read(x, "fine 3");
            x.seed(5);
            x.minutes(77);
            due.is("back", x.back(), 1);
            int[] is = all(x);
            for (int i = 0; i < was.length; i++) due.is("as kept " + i, is[i], was[i]);
        }
        // a text told since stands where the image's next one will
        Due.read(x, "fee 8");
        x.back();
        Due.read(x, "fine 8");
        due.is("its number", x.why(2), 2);
        due.is("no fee of that number", x.why(1), 1);
    }

    /** All that an image keeps, in a row. */
    private static int[] all(StrokesHeard x) {
        int[] row = new int[40];
        int at = 0;
        for (int what : new int[] {0, 1, 2, 3, 4, 7}) row[at++] = x.count(what);
        for (int what = 0; what < 4; what++) row[at++] = x.bed(what);
        for (int k = 0; k < 12; k++) row[at++] = x.note(k);
        for (int what = 0; what < 6; what++) row[at++] = x.told(0, what);
        for (int key = 0; key < 3; key++) row[at++] = x.why(key);
        row[at++] = x.fee();
        row[at++] = x.fine(0);
        row[at++] = x.strokes(0, 12);
        row[at++] = x.textTold(2, 0);
        row[at++] = x.may(0);
        row[at] = x.telling();
        return row;
    }

    private static void whatAnImageLeaves() {
        StrokesHeard x = new StrokesHeard();
        x.keep();
        x.clock(1, 0, 0);
        x.sheet(0, 0, 2);
        x.mark(0, 1, 9);
        x.lay(0, 1, 0);
        x.lay(1, 2, 0);
        x.tell(4);
        x.feed(0, 0, 0);
        due.is("back", x.back(), 0);
        due.is("sheet", x.mark(0, 1, 9), 1);
        due.is("clock in a slot", x.ask(0, 1), 4);
        due.is("sheet in a slot", x.item(1, 1), 9);
        due.is("waits", x.count(5), 1);
        due.is("tape", x.count(6), 12);
    }

    private static void count() {
        StrokesHeard x = new StrokesHeard();
        x.clock(0, 0, 0);
        x.minutes(7);
        x.ear(0, 66);
        x.ear(1, 33);
        Due.read(x, "fee 1");
        x.tell(1);
        x.tell(1);
        x.feed(0, 0, 0);
        x.seed(-8);
        int[] counts = {1, 7, 66, 33, 1, 2, 12, -8};
        for (int what = 0; what < 8; what++) due.is("count " + what, x.count(what), counts[what]);
        due.is("below", x.count(-1), BAD);
        due.is("above", x.count(8), BAD);
    }

    public static void main(String[] args) {
        tell();
        checkRows();
        checkAtTheEnd();
        back();
        whatAnImageLeaves();
        count();
        due.end();
    }
}
