/** Promises 12 to 14 and 23 to 25: minutes, the bed, notes, what is only thought. */
public final class MinutesTest {
    private static final int BAD = StrokesHeard.BAD, NONE = StrokesHeard.NONE;
    private static final Due due = new Due();
    private static int z;

    private static int draw() {
        z = z * 1103515245 + 12345;
        return z >>> 8;
    }

    private static void allHeard() {
        StrokesHeard x = new StrokesHeard();
        x.clock(1, 0, 0);
        due.is("no minutes", x.minutes(0), BAD);
        due.is("too many", x.minutes(101), BAD);
        due.is("one", x.minutes(1), 12);
        due.is("one note", x.bed(3), 1);
        due.is("newest", x.note(0), 12);
        due.is("no second", x.note(1), NONE);
        due.is("up to 1:00", x.minutes(60), 1 + 2 + 3 + 1);
        due.is("newest is one o'clock", x.note(0), 1);
        due.is("the second is silent", x.note(1), 0);
        due.is("twelve notes", x.bed(3), 12);
        due.is("eleven", x.note(11), 0);
        due.is("note above", x.note(12), BAD);
        due.is("note below", x.note(-1), BAD);
        due.is("heard", x.bed(0), 19);
        due.is("missed", x.bed(1), 0);
        due.is("mistaken", x.bed(2), 0);
        due.is("what", x.bed(4), BAD);
        due.is("what below", x.bed(-1), BAD);
        due.is("minute", x.count(1), 61);
    }

    private static void oldestNote() {
        StrokesHeard x = new StrokesHeard();
        x.clock(0, 0, 0);
        x.minutes(12);
        due.is("oldest of twelve", x.note(11), 12);
        x.minutes(1);
        due.is("gone with the thirteenth", x.note(11), 0);
    }

    private static void missedAndMistaken() {
        StrokesHeard x = new StrokesHeard();
        x.clock(3, 0, 0);
        x.clock(0, 0, 0);
        x.ear(0, 40);
        x.ear(1, 60);
        x.seed(99);
        z = 99;
        int heard = 0;
        for (int i = 0; i < 16 + 12; i++) if (draw() % 100 < 40) heard++;
        int noise = draw() % 100 < 60 ? 1 : 0;
        due.is("thought first", x.behind(1, 0), heard);
        due.is("heard", x.minutes(1), heard);
        due.is("missed", x.bed(1), 28 - heard);
        due.is("mistaken", x.bed(2), noise);
        due.is("note", x.note(0), heard + noise);
        due.is("z", x.count(7), z);
        x.ear(0, 0);
        x.ear(1, 100);
        x.minutes(60);
        due.is("a deaf ear", x.bed(0), heard);
        due.is("misses all", x.bed(1), 28 - heard + 6 + 5 + 1);
        due.is("noise each minute", x.bed(2), noise + 60);
        due.is("only the noise", x.note(0), 1);
    }

    private static void lastMinute() {
        StrokesHeard x = new StrokesHeard();
        x.clock(0, 0, 0);
        int heard = 0;
        for (int i = 0; i < 99; i++) heard += x.minutes(100);
        for (int i = 0; i < 9; i++) heard += x.minutes(10);
        due.is("near the end", x.count(1), 9990);
        due.is("no more than up to 9999", x.minutes(100), 0);
        due.is("minute", x.count(1), 9999);
        int seed = x.count(7);
        due.is("none is left", x.minutes(1), 0);
        due.is("no draw", x.count(7), seed);
        due.is("heard", x.bed(0), heard);
        // 9999 is 39 minutes behind 10:00 (13 half days and 639 minutes), so 11:00 is 21 minutes off
        due.is("what is thought goes on", x.behind(22, 0), heard + 11);
        due.is("twenty-one are too few", x.behind(21, 0), heard);
        due.is("listening too", x.listen(), 22);
        due.is("nothing changed", x.count(1), 9999);
    }

    private static void behind() {
        StrokesHeard x = new StrokesHeard();
        x.clock(0, 30, 0);
        x.minutes(5);
        x.ear(0, 50);
        x.ear(1, 20);
        int[] was = {x.bed(0), x.bed(1), x.bed(2), x.bed(3), x.count(1), x.count(7), x.note(0)};
        due.is("none, heard", x.behind(0, 0), 0);
        due.is("none, missed", x.behind(0, 1), 0);
        due.is("none, mistaken", x.behind(0, 2), 0);
        due.is("none, fit", x.behind(0, 3), x.may(0));
        int[] then = {x.behind(77, 0), x.behind(77, 1), x.behind(77, 2), x.behind(77, 3)};
        int[] is = {x.bed(0), x.bed(1), x.bed(2), x.bed(3), x.count(1), x.count(7), x.note(0)};
        for (int i = 0; i < 7; i++) due.is("stays " + i, is[i], was[i]);
        due.is("n below", x.behind(-1, 0), BAD);
        due.is("n above", x.behind(101, 0), BAD);
        due.is("what below", x.behind(1, -1), BAD);
        due.is("what above", x.behind(1, 4), BAD);
        due.is("a hundred", x.behind(100, 0) + x.behind(100, 1), 12 + 1);
        x.minutes(77);
        for (int what = 0; what < 3; what++) due.is("came " + what, x.bed(what), then[what]);
        due.is("came 3", x.may(0), then[3]);
    }

    private static void listen() {
        StrokesHeard x = new StrokesHeard();
        due.is("no clock tells", x.listen(), NONE);
        x.clock(0, 0, 0);
        due.is("the first stroke tells", x.listen(), 1);
        x.minutes(1);
        due.is("sure already", x.listen(), 0);
        due.is("sure", x.may(3), 1);
        x.minutes(12);
        due.is("up to one o'clock", x.listen(), 60 - 13 + 1);
        x.turns(0, 4);
        due.is("by ones and fives never", x.listen(), NONE);
    }

    private static void feeAndFine() {
        StrokesHeard x = new StrokesHeard();
        x.clock(0, 11, 7);
        due.is("fee without a text", x.fee(), 0);
        due.is("fine without a text", x.fine(0), 11);
        due.is("fine of none", x.fine(1), BAD);
        due.is("fine below", x.fine(-1), BAD);
        x.ear(0, 50);
        x.minutes(12);
        int heard = x.bed(0);
        int missed = x.bed(1);
        due.is("all strokes", heard + missed, 12);
        due.is("fee is heard", x.fee(), heard);
        due.is("read", Due.read(x, "fee e*100+m"), 0);
        due.is("fee", x.fee(), heard * 100 + missed);
        due.is("read", Due.read(x, "fine o*10-t"), 1);
        due.is("fine", x.fine(0), 103);
        due.is("fee stays", x.fee(), heard * 100 + missed);
        due.is("read", Due.read(x, "fee 7"), 2);
        due.is("the last counts", x.fee(), 7);
        due.is("fine of none", x.fine(1), BAD);
    }

    public static void main(String[] args) {
        allHeard();
        oldestNote();
        missedAndMistaken();
        lastMinute();
        behind();
        listen();
        feeAndFine();
        due.end();
    }
}
