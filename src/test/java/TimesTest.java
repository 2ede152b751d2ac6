/** Promises 15 to 22: what time it may be. */
public final class TimesTest {
    private static final int BAD = StrokesHeard.BAD, NONE = StrokesHeard.NONE;
    private static final Due due = new Due();

    private static void fits() {
        StrokesHeard x = new StrokesHeard();
        due.is("without notes all fit", x.may(0), 720);
        due.is("time above", x.fits(720), BAD);
        due.is("time below", x.fits(-1), BAD);
        x.clock(0, 0, 0);
        x.minutes(3);
        // 12 strokes and two silent minutes: only two minutes past twelve
        for (int t = 0; t < 480; t++) due.is("fits " + t, x.fits(t), t == 2 ? 1 : 0);
        StrokesHeard twin = new StrokesHeard();
        twin.clock(0, 0, 0);
        twin.minutes(3);
        for (int t = 480; t < 720; t++) due.is("fits " + t, twin.fits(t), 0);
        due.is("one", x.may(0), 1);
        due.is("its hour", x.may(1), 1);
        due.is("first", x.may(2), 2);
        due.is("sure", x.may(3), 1);
        due.is("what", x.may(4), BAD);
        due.is("what below", x.may(-1), BAD);
    }

    private static void fitsByEarAndNoise() {
        StrokesHeard x = new StrokesHeard();
        x.clock(0, 0, 0);
        x.minutes(1);
        x.set(0, 1, 5);
        due.is("twelve were heard, late", x.fits(5), 1);
        due.is("not any more", x.fits(0), 0);
        x.set(0, 1, 0);
        x.minutes(60);
        // newest is one stroke, eleven silent minutes ahead of it
        due.is("one o'clock only", x.may(0), 1);
        due.is("first", x.may(2), 60);
        x.ear(0, 99);
        due.is("may have missed: every full hour", x.may(0), 12);
        due.is("all hours", x.may(1), 4095);
        due.is("not sure", x.may(3), 0);
        x.ear(1, 1);
        due.is("may be noise: any time", x.may(0), 720);
        x.ear(0, 100);
        // with noise: one stroke is one o'clock, or a silent minute and a noise, with nothing ahead of it
        due.is("noise alone", x.may(0), 720 - 12 * 12 + 1);
        due.is("noise in the silence", x.fits(30), 1);
        due.is("two o'clock would be heard", x.fits(120), 0);
        due.is("one o'clock without noise", x.fits(60), 1);
        due.is("twelve would have been heard", x.fits(11), 0);
        due.is("twelve is far enough", x.fits(12), 1);
        due.is("twelve hours", x.may(1), 4095);
    }

    /** Six tunes at twelve strike more than any other clocks can: 96. */
    private static void loudest() {
        StrokesHeard x = new StrokesHeard();
        for (int i = 0; i < 6; i++) x.clock(3, 0, 0);
        due.is("heard", x.minutes(1), 96);
        due.is("only twelve", x.may(0), 1);
        due.is("which", x.may(2), 0);
        due.is("fits", x.fits(0), 1);
    }

    private static void nothingFits() {
        StrokesHeard x = new StrokesHeard();
        x.clock(0, 0, 0);
        x.minutes(1);
        x.turns(0, 4);
        due.is("none", x.may(0), 0);
        due.is("no hours", x.may(1), 0);
        due.is("no first", x.may(2), NONE);
        due.is("not sure", x.may(3), 0);
    }

    private static void next() {
        StrokesHeard x = new StrokesHeard();
        due.is("no clocks", x.next(), NONE);
        x.clock(0, 0, 0);
        due.is("now", x.next(), 1);
        x.minutes(1);
        due.is("in an hour", x.next(), 60);
        x.minutes(58);
        due.is("in a minute", x.next(), 2);
        x.turns(0, 2);
        x.minutes(2);
        due.is("again", x.next(), 2);
    }

    private static void parts() {
        StrokesHeard x = new StrokesHeard();
        due.is("no clocks, none", x.parts(0, 0), 1);
        due.is("no clocks, one", x.parts(0, 1), 0);
        x.clock(0, 0, 0);
        x.clock(1, 0, 0);
        x.clock(4, 0, 0);
        x.clock(0, 1, 0);
        // at 3:00: 3, 3, 3, 0
        due.is("none", x.parts(180, 0), 2);
        due.is("three", x.parts(180, 3), 6);
        due.is("six", x.parts(180, 6), 6);
        due.is("nine", x.parts(180, 9), 2);
        due.is("one", x.parts(180, 1), 0);
        due.is("much", x.parts(180, Integer.MAX_VALUE), 0);
        due.is("n below", x.parts(180, -1), BAD);
        due.is("time above", x.parts(720, 0), BAD);
        due.is("time below", x.parts(-1, 0), BAD);
    }

    private static void astray() {
        StrokesHeard x = new StrokesHeard();
        due.is("no clocks", x.astray(0), NONE);
        due.is("no clocks, how many", x.astray(1), NONE);
        due.is("what is looked at first", x.astray(2), BAD);
        x.clock(0, 0, 0);
        x.clock(0, 0, 0);
        due.is("of several the least", x.astray(0), 0);
        due.is("all fit", x.astray(1), 720);
        x.turns(0, 1);
        x.minutes(20);
        x.turns(1, 3);
        // heard: 24 at 0, 1 at 15; the notes reach from 19 back to 8: one stroke, four minutes ago
        due.is("the tune is too many", x.may(0), 0);
        // without the tune: past each quarter, and past one o'clock; without the other: past each quarter
        due.is("the tune", x.astray(0), 1);
        due.is("without it", x.astray(1), 13);
        x.turns(0, 3);
        x.turns(1, 1);
        due.is("the tune is the other one", x.astray(0), 0);
        due.is("without that", x.astray(1), 13);
        x.set(1, 1, 1);
        due.is("nothing changed", x.told(1, 1), 1);
        due.is("what below", x.astray(-1), BAD);
    }

    private static void right() {
        StrokesHeard x = new StrokesHeard();
        due.is("no clock", x.right(0, 0), BAD);
        x.clock(0, 0, 0);
        due.is("without notes: the least", x.right(0, 0), 0);
        due.is("without notes: all", x.right(0, 1), 720);
        x.clock(0, 0, 0);
        x.minutes(1);
        x.set(1, 1, 9);
        // 24 strokes at once: only if both are late alike
        due.is("none fits", x.may(0), 0);
        due.is("right", x.right(1, 0), 0);
        due.is("how many", x.right(1, 1), 1);
        due.is("the other one", x.right(0, 0), 9);
        due.is("as it was", x.told(1, 1), 9);
        due.is("clock", x.right(2, 0), BAD);
        due.is("what", x.right(0, 2), BAD);
        due.is("what below", x.right(0, -1), BAD);
        x.turns(0, 4);
        x.turns(1, 4);
        due.is("with none one fits", x.right(0, 0), NONE);
        due.is("with none one fits, how many", x.right(0, 1), NONE);
    }

    /** again may hang on OFF: then each OFF that is tried has its own minute. */
    private static void rightByText() {
        StrokesHeard x = new StrokesHeard();
        x.clock(2, 7, 0);
        Due.read(x, "again o");
        x.minutes(15);
        // heard: 12 at 7 and at 14; notes 0 (14) and 7 (7)
        due.is("fits", x.may(0), 1);
        x.set(0, 1, 3);
        due.is("right", x.right(0, 0), 7);
        due.is("how many", x.right(0, 1), 1);
    }

    private static void telling() {
        StrokesHeard x = new StrokesHeard();
        due.is("no clocks", x.telling(), NONE);
        x.clock(0, 0, 0);
        due.is("a plain clock", x.telling(), 60);
        x.turns(0, 4);
        due.is("by ones and fives", x.telling(), NONE);
        x.turns(0, 2);
        // the longest silence lies between again and the hour: 57 minutes
        due.is("twice", x.telling(), 58);
        Due.read(x, "again 14");
        due.is("again later", x.telling(), 60 - 14);
    }

    /**
     * The hour is that of the newest of the n TIMES, the others lie ahead of it, which is before it.
     * One o'clock and the half hours around it are one stroke each: 12:30 and 1:00 are heard as
     * 1:00 and 1:30 are. Both end in the hour of one, but they don't begin in one hour.
     */
    private static void tellingAhead() {
        StrokesHeard x = new StrokesHeard();
        x.clock(5, 0, 0);
        due.is("both end in one hour", x.telling(), 60);
        x.set(0, 1, 59);
        due.is("late: at 1:59 and at 2:29 they end", x.telling(), NONE);
    }

    private static void like() {
        StrokesHeard x = new StrokesHeard();
        due.is("missing", x.like(0, 0), StrokesHeard.NOTHING);
        due.is("sheet", x.like(4, 0), BAD);
        due.is("sheet below", x.like(-1, 0), BAD);
        due.is("what", x.like(0, 2), BAD);
        x.sheet(0, 1, 3);
        due.is("without clocks the first", x.like(0, 0), 0);
        due.is("without clocks no difference", x.like(0, 1), 0);
        x.clock(0, 0, 0);
        due.is("first silence", x.like(0, 0), 1);
        x.mark(0, 1, 7);
        due.is("seven", x.like(0, 0), 7 * 60 - 1);
        due.is("no difference", x.like(0, 1), 0);
        x.mark(0, 0, -3);
        due.is("seven, and three", x.like(0, 1), 3);
        x.mark(0, 0, StrokesHeard.NONE);
        due.is("no number counts for nothing", x.like(0, 1), 0);
        x.mark(0, 1, 12);
        due.is("round", x.like(0, 0), 719);
        x.sheet(0, 0, 0);
        due.is("no places", x.like(0, 0), 0);
        x.sheet(1, 0, 24);
        x.mark(1, 23, 1);
        due.is("far ahead", x.like(1, 0), 60 - 23);
    }

    public static void main(String[] args) {
        fits();
        fitsByEarAndNoise();
        loudest();
        nothingFits();
        next();
        parts();
        astray();
        right();
        rightByText();
        telling();
        tellingAhead();
        like();
        due.end();
    }
}
