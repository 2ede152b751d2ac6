/** Edges of promises 15 to 24, and of what the document's third term says of times. */
final class TimeEdges {
    private static final int BAD = StrokesHeard.BAD, NONE = StrokesHeard.NONE, NOTHING = StrokesHeard.NOTHING;

    static void all(Edges e) {
        fitsBounds(e);
        fitsNotes(e);
        may(e);
        mayAsFits(e);
        sure(e);
        next(e);
        parts(e);
        astray(e);
        right(e);
        telling(e);
        likeBounds(e);
        like(e);
        behind(e);
        listen(e);
    }

    /** One NOTE alone, of so many strokes as a clock of a kind strikes at twelve. */
    private static StrokesHeard twelveHeard(int kind) {
        StrokesHeard x = Edges.one(kind, 0);
        x.minutes(1);
        return x;
    }

    private static void fitsBounds(Edges e) {
        e.promise(15, "TIMES are 0 .. 719");
        StrokesHeard x = new StrokesHeard();
        e.is("the first", x.fits(0), 1);
        e.is("the last", x.fits(719), 1);
        e.outside("time", 0, 719, (y, v) -> y.fits(v), BAD);
        e.promise(15, "for each NOTE: there is none");
        StrokesHeard silent = Edges.one(0, 0);
        for (int time : new int[] {0, 1, 60, 719}) e.is("any TIME, " + time, silent.fits(time), 1);
    }

    private static void fitsNotes(Edges e) {
        e.promise(15, "TOTAL .. no less than it");
        StrokesHeard x = twelveHeard(0);
        x.ear(0, 99);
        e.is("as many", x.fits(0), 1);
        e.is("one less", x.fits(660), 0);
        e.is("none", x.fits(1), 0);
        e.promise(15, "and 1 with NOISE above 0, together");
        x.ear(1, 1);
        e.is("one less, and 1", x.fits(660), 1);
        e.is("two less, and 1", x.fits(600), 0);
        x.ear(1, 0);
        e.is("NOISE 0", x.fits(660), 0);
        e.promise(15, "with EAR 100 it is no less than TOTAL there");
        StrokesHeard four = twelveHeard(4);
        four.turns(0, 0);
        e.is("as many", four.fits(240), 1);
        e.is("one more", four.fits(300), 0);
        four.ear(0, 99);
        e.is("one more with EAR 99", four.fits(300), 1);
        e.is("one less with EAR 99", four.fits(180), 0);
        e.promise(15, "with EAR 100 and NOISE: as many, or one less");
        four.ear(0, 100);
        four.ear(1, 1);
        e.is("one more", four.fits(300), 0);
        e.is("as many", four.fits(240), 1);
        e.is("one less", four.fits(180), 1);
        e.is("two less", four.fits(120), 0);
        e.promise(15, "TOTAL at the TIME less k, round by 720");
        // late by 59, it strikes eleven at 719; the oldest of twelve NOTES is that of 719, the newest of 10
        StrokesHeard round = Edges.one(0, 59);
        Edges.until(round, 731);
        for (int time = 0; time < 120; time++) e.is("TIME " + time, round.fits(time), time == 10 ? 1 : 0);
        for (int time = 660; time < 720; time++) e.is("TIME " + time, round.fits(time), 0);
        e.promise(15, "the latest 12 NOTES: what is older counts no more");
        round.minutes(1);
        e.is("eleven silent minutes behind eleven", round.fits(11), 1);
        e.is("or behind one", round.fits(119 + 12), 1);
    }

    private static void may(Edges e) {
        e.promise(16, "What is 0 .. 3");
        StrokesHeard x = new StrokesHeard();
        e.is("the first", x.may(0), 720);
        e.is("the last", x.may(3), 0);
        e.outside("what", 0, 3, (y, v) -> y.may(v), BAD);
        e.promise(16, "their hours, as a set");
        e.is("all", x.may(1), 4095);
        e.is("the first", twelveHeard(0).may(1), 1);
        StrokesHeard eleven = Edges.one(0, 0);
        Edges.until(eleven, 661);
        e.is("the last", eleven.may(1), 2048);
        e.promise(16, "the first of them");
        e.is("the first TIME", x.may(2), 0);
        StrokesHeard last = Edges.one(0, 59);
        Edges.until(last, 720);
        e.is("the last TIME", last.may(2), 719);
        e.is("how many", last.may(0), 1);
        e.promise(16, "none FITS");
        StrokesHeard none = twelveHeard(0);
        none.turns(0, 4);
        e.is("how many", none.may(0), 0);
        e.is("hours", none.may(1), 0);
        e.is("first", none.may(2), NONE);
        e.is("SURE: some TIME FITS", none.may(3), 0);
        e.promise(16, "the loudest minute there can be");
        StrokesHeard loud = new StrokesHeard();
        for (int i = 0; i < 6; i++) loud.clock(3, 0, 0);
        loud.ear(1, 100);
        e.is("HEARD", loud.minutes(1), 96);
        e.is("the NOTE", loud.note(0), 97);
        e.is("it may be twelve", loud.may(2), 0);
        e.is("alone", loud.may(0), 1);
        loud.ear(1, 0);
        e.is("without NOISE it can't be", loud.may(0), 0);
    }

    /** may goes through all TIMES, fits asks of one; no object is asked of more than half of them. */
    private static void mayAsFits(Edges e) {
        for (int kind = 0; kind < 6; kind++) {
            e.promise(16, "how many TIMES FIT, their hours, the first: those that fits tells, of kind " + kind);
            for (int off : new int[] {0, 1, 59}) {
                for (int minute : new int[] {0, 1, 3, 16, 31, 46, 62, 721, 735}) {
                    for (int ear = 99; ear <= 100; ear++) mayAsFits(e, kind, off, minute, ear);
                }
            }
        }
    }

    private static StrokesHeard heard(int kind, int off, int minute, int ear) {
        StrokesHeard x = Edges.one(kind, off);
        Edges.until(x, minute);
        x.ear(0, ear);
        return x;
    }

    private static void mayAsFits(Edges e, int kind, int off, int minute, int ear) {
        int many = 0;
        int hours = 0;
        int first = NONE;
        StrokesHeard x = heard(kind, off, minute, ear);
        for (int time = 0; time < 720; time++) {
            if (time == 360) x = heard(kind, off, minute, ear);
            if (x.fits(time) == 0) continue;
            many++;
            hours |= 1 << time / 60;
            first = first == NONE ? time : first;
        }
        String when = ", late by " + off + ", behind " + minute + ", with EAR " + ear;
        e.is("how many" + when, x.may(0), many);
        e.is("hours" + when, x.may(1), hours);
        e.is("first" + when, x.may(2), first);
        e.is("SURE" + when, x.may(3), Integer.bitCount(hours) == 1 ? 1 : 0);
    }

    private static void sure(Edges e) {
        e.promise(16, "SURE: all that FIT are of one hour (TIME by 60, cut)");
        StrokesHeard x = twelveHeard(2);
        e.is("two TIMES", x.may(0), 2);
        e.is("of one hour", x.may(3), 1);
        x.set(0, 1, 57);
        e.is("57 and 59", x.may(3), 1);
        e.is("the hour", x.may(1), 1);
        x.set(0, 1, 58);
        e.is("58 and 60", x.may(3), 0);
        e.is("two hours", x.may(1), 3);
        e.is("still two TIMES", x.may(0), 2);
        e.is("the first", x.may(2), 58);
        Due.read(x, "again 1");
        e.is("58 and 59", x.may(3), 1);
        x.set(0, 1, 59);
        e.is("59 and 60", x.may(3), 0);
        e.promise(16, "SURE: one TIME alone");
        e.is("twelve", twelveHeard(0).may(3), 1);
    }

    private static void next(Edges e) {
        e.promise(17, "the least n (1 .. 60): the least");
        StrokesHeard x = Edges.one(0, 0);
        e.is("now", x.next(), 1);
        e.promise(17, "the least n (1 .. 60): the greatest");
        x.minutes(1);
        e.is("an hour less a minute", x.next(), 60);
        x.minutes(1);
        e.is("a minute less", x.next(), 59);
        e.promise(17, "THE TIME and n less 1, round by 720");
        Edges.until(x, 719);
        e.is("at 719", x.next(), 2);
        Edges.until(x, 720);
        e.is("at 720", x.next(), 1);
        x.set(0, 1, 59);
        Edges.until(x, 1440 - 3);
        e.is("at 717, late", x.next(), 3);
        Edges.until(x, 1440);
        e.is("at 0, late", x.next(), 60);
        e.promise(17, "NONE: by none");
        e.is("without clocks", new StrokesHeard().next(), NONE);
    }

    private static void parts(Edges e) {
        StrokesHeard six = new StrokesHeard();
        for (int i = 0; i < 6; i++) six.clock(0, 0, 0);
        e.promise(18, "TIMES are 0 .. 719");
        e.is("the first", six.parts(0, 0), 1);
        e.is("the last", six.parts(719, 0), 64);
        e.outside("time", 0, 719, (x, v) -> x.parts(v, 0), BAD);
        e.promise(18, "BAD: also n below 0");
        e.refused("-1", x -> x.parts(0, -1), BAD);
        e.refused("far below", x -> x.parts(0, Integer.MIN_VALUE), BAD);
        e.is("0 is taken", six.parts(1, 0), 64);
        e.is("the greatest is taken", six.parts(0, Integer.MAX_VALUE), 0);
        e.promise(18, "how many sets of CLOCKS (none: 0)");
        e.is("one clock", six.parts(0, 12), 6);
        e.is("three", six.parts(0, 36), 20);
        e.is("all", six.parts(0, 72), 1);
        e.is("one stroke less than one", six.parts(0, 11), 0);
        e.is("one stroke more than all", six.parts(0, 73), 0);
        e.promise(18, "the set of no CLOCKS strikes 0");
        e.is("0", new StrokesHeard().parts(0, 0), 1);
        e.is("1", new StrokesHeard().parts(0, 1), 0);
    }

    private static void astray(Edges e) {
        e.promise(19, "what 0, 1");
        e.outside("what", 0, 1, (x, v) -> x.astray(v), BAD);
        e.promise(19, "NONE: there are no CLOCKS");
        StrokesHeard x = new StrokesHeard();
        e.is("the CLOCK", x.astray(0), NONE);
        e.is("how many", x.astray(1), NONE);
        e.promise(19, "BAD; NONE: of several the one that stands first");
        e.is("above", x.astray(2), BAD);
        e.is("below", x.astray(-1), BAD);
        e.promise(19, "one CLOCK alone: without it all is silent");
        StrokesHeard one = twelveHeard(0);
        e.is("the CLOCK", one.astray(0), 0);
        e.is("nothing FITS", one.astray(1), 0);
        e.promise(19, "of several the least");
        StrokesHeard six = new StrokesHeard();
        for (int i = 0; i < 6; i++) six.clock(0, 0, 0);
        e.is("without NOTES", six.astray(0), 0);
        e.is("all TIMES", six.astray(1), 720);
        six.minutes(1);
        e.is("one too few for any", six.astray(0), 0);
        e.is("nothing FITS", six.astray(1), 0);
        e.promise(19, "the CLOCK without which most TIMES FIT: any of six");
        for (int wrong = 0; wrong < 6; wrong++) {
            StrokesHeard y = new StrokesHeard();
            for (int i = 0; i < 5; i++) y.clock(0, 0, 0);
            y.minutes(1);
            // 60 were heard, with which only five plain ones agree
            y.clock(0, 0, 0);
            for (int i = 0; i < 6; i++) y.turns(i, i == wrong ? 3 : 0);
            e.is("the CLOCK, " + wrong, y.astray(0), wrong);
            e.is("how many", y.astray(1), 1);
            e.is("with all", y.may(0), 0);
        }
        e.promise(19, "WRONG changes nothing");
        e.only("the CLOCK", Edges::rich, y -> y.astray(0));
    }

    private static StrokesHeard twoHeard() {
        StrokesHeard x = Edges.one(0, 0);
        x.clock(0, 0, 0);
        x.minutes(1);
        return x;
    }

    private static void right(Edges e) {
        e.promise(20, "BAD: no such CLOCK");
        e.outside("clock", 0, 2, (x, v) -> x.right(v, 0), BAD);
        e.refused("of none", x -> { }, x -> x.right(0, 0), BAD);
        e.promise(20, "what 0, 1");
        e.outside("what", 0, 1, (x, v) -> x.right(0, v), BAD);
        e.promise(20, "the OFF (0 .. 59)");
        for (int off : new int[] {0, 1, 30, 58, 59}) {
            StrokesHeard x = twoHeard();
            x.set(0, 1, off);
            x.set(1, 1, 30);
            e.is("OFF " + off, x.right(1, 0), off);
            e.is("how many", x.right(1, 1), 1);
            e.is("it stays as it was", x.told(1, 1), 30);
        }
        e.promise(20, "the OFF (0 .. 59), and none beyond");
        // thirteen at once would be one o'clock, and twelve by a clock that is late by 60
        StrokesHeard beyond = Edges.one(0, 0);
        beyond.ear(1, 100);
        beyond.minutes(1);
        beyond.ear(1, 0);
        beyond.clock(0, 0, 0);
        e.is("thirteen", beyond.note(0), 13);
        e.is("the OFF", beyond.right(1, 0), NONE);
        e.is("how many", beyond.right(1, 1), NONE);
        e.promise(20, "of several the least");
        StrokesHeard alone = twelveHeard(0);
        alone.set(0, 1, 59);
        e.is("any OFF does", alone.right(0, 0), 0);
        e.is("how many", alone.right(0, 1), 1);
        e.promise(20, "fewest TIMES FIT, but one at least");
        StrokesHeard x = twelveHeard(2);
        x.set(0, 1, 10);
        x.clock(0, 40, 0);
        // the first strikes twelve at 10 and 12, the other at 40; struck together, one of these is 24,
        // but the six and six of six o'clock are twelve
        e.is("how many fit as it is", x.may(0), 3);
        e.is("not the least OFF of all", x.right(1, 0), 10);
        e.is("three have become two", x.right(1, 1), 2);
        e.promise(20, "NONE: with none one FITS");
        StrokesHeard none = twoHeard();
        none.turns(0, 4);
        none.turns(1, 4);
        e.is("the OFF", none.right(0, 0), NONE);
        e.is("how many", none.right(1, 1), NONE);
        e.promise(20, "BAD; NONE: of several the one that stands first");
        e.is("clock", none.right(2, 0), BAD);
        e.is("what", none.right(0, 2), BAD);
        e.promise(20, "RIGHT changes nothing");
        e.only("the OFF", y -> y.deal(6), y -> y.right(5, 0));
    }

    private static void telling(Edges e) {
        e.promise(21, "NONE: by none");
        e.is("without clocks", new StrokesHeard().telling(), NONE);
        e.is("by ones and fives", Edges.one(4, 0).telling(), NONE);
        e.promise(21, "the least n (1 .. 60): the greatest");
        e.is("a clock", Edges.one(0, 0).telling(), 60);
        e.is("a clock, as late as can be", Edges.one(0, 59).telling(), 60);
        e.promise(21, "n less 1: each minute that is told sooner saves one");
        StrokesHeard x = Edges.one(2, 0);
        e.is("again at 2", x.telling(), 58);
        Due.read(x, "again 1");
        e.is("again at 1", x.telling(), 59);
        Due.read(x, "again 14");
        e.is("again at 14", x.telling(), 46);
        e.promise(21, "the hour is that of the TIMES, not of those ahead of them");
        // one o'clock and the half hours beside it are one stroke each: 12:30 and 1:00 are as 1:00 and 1:30
        // up to half an hour later; such minutes end alike in one hour only if the clock is not late
        StrokesHeard cuckoo = Edges.one(5, 0);
        e.is("they end from 1:00 and 1:30 to 1:29 and 1:59", cuckoo.telling(), 60);
        cuckoo.set(0, 1, 1);
        e.is("they end from 1:01 and 1:31 to 1:30 and 2:00", cuckoo.telling(), NONE);
        cuckoo.set(0, 1, 59);
        e.is("they end from 1:59 and 2:29 on", cuckoo.telling(), NONE);
        e.promise(21, "TIMES are 0 .. 719: the last counts");
        // silent are 56 minutes up to 719, and 57 up to 59; no other hour is as long silent
        StrokesHeard last = Edges.one(2, 0);
        Due.read(last, "again 14-h");
        e.is("silence", last.telling(), 57);
        e.promise(21, "TIMES are 0 .. 719: the first counts, and those ahead of it go round");
        // 0 and 480: 4 now, 3 six minutes ago, 3 forty-six ago; 56 ago the one had 2, the other none
        StrokesHeard first = new StrokesHeard();
        first.clock(4, 54, 1);
        first.clock(4, 0, 2);
        Due.read(first, "again t*h");
        int[] ago = {0, 6, 46, 56};
        int[] at0 = {4, 3, 3, 2};
        int[] at480 = {4, 3, 3, 0};
        for (int i = 0; i < 4; i++) {
            e.is(ago[i] + " ahead of 0", first.total((720 - ago[i]) % 720), at0[i]);
            e.is(ago[i] + " ahead of 480", first.total(480 - ago[i]), at480[i]);
        }
        e.is("with the fifty-seventh", first.telling(), 57);
        e.promise(21, "TELLING hangs on no NOTES, and changes nothing");
        e.only("by six", y -> y.deal(6), y -> y.telling() == NONE ? 0 : 1);
    }

    private static void likeBounds(Edges e) {
        e.promise(22, "SHEETS 0 .. 3");
        StrokesHeard x = Edges.one(0, 0);
        x.sheet(0, 0, 1);
        x.sheet(3, 1, 1);
        e.is("the first", x.like(0, 0), 1);
        e.is("the last", x.like(3, 0), 1);
        e.outside("sheet", 0, 3, (y, v) -> y.like(v, 0), BAD);
        e.promise(22, "what 0, 1");
        e.outside("what", 0, 1, (y, v) -> y.like(0, v), BAD);
        e.promise(22, "NOTHING: a SHEET is MISSING");
        e.refused("missing", y -> y.like(3, 0), NOTHING);
        e.promise(22, "BAD; NOTHING: of several the one that stands first");
        e.refused("what, of a missing one", y -> y.like(3, 2), BAD);
    }

    private static void like(Edges e) {
        e.promise(22, "a SHEET of 0 places");
        StrokesHeard x = Edges.one(0, 0);
        x.sheet(0, 0, 0);
        e.is("the TIME", x.like(0, 0), 0);
        e.is("the differences", x.like(0, 1), 0);
        e.promise(22, "a SHEET of 24 places: the last counts");
        x.sheet(0, 0, 24);
        x.mark(0, 23, 11);
        e.is("the TIME", x.like(0, 0), 660 - 23);
        e.is("the differences", x.like(0, 1), 0);
        e.promise(22, "TOTAL at it and k, round by 720");
        x.mark(0, 23, 12);
        e.is("the TIME", x.like(0, 0), 720 - 23);
        x.mark(0, 23, 0);
        x.mark(0, 1, 12);
        e.is("the last TIME", x.like(0, 0), 719);
        e.promise(22, "places k that are numbers");
        Edges.row(x, 1, 1, NONE, NONE, NONE);
        e.is("none are", x.like(1, 0), 0);
        e.is("nothing differs", x.like(1, 1), 0);
        Edges.row(x, 1, 1, NONE, 5, NONE);
        e.is("one is", x.like(1, 0), 299);
        e.promise(22, "differ least (signs left out), together");
        Edges.row(x, 2, 0, 14, -2);
        e.is("the TIME", x.like(2, 0), 0);
        e.is("2 more and 2 less", x.like(2, 1), 4);
        Edges.row(x, 2, 1, -99999);
        e.is("the first silence", x.like(2, 0), 1);
        e.is("far below", x.like(2, 1), 99999);
        Edges.row(x, 2, 1, 99999);
        e.is("the loudest", x.like(2, 0), 0);
        e.is("far above", x.like(2, 1), 99987);
        int[] far = new int[24];
        java.util.Arrays.fill(far, -99999);
        Edges.row(x, 2, 1, far);
        e.is("as far as can be", x.like(2, 1), 24 * 99999);
        e.promise(22, "of several the least");
        Edges.row(x, 3, 0, 0, 0);
        e.is("silence", x.like(3, 0), 1);
        Edges.row(x, 3, 1, 13);
        e.is("twelve is nearest", x.like(3, 0), 0);
        e.is("by one", x.like(3, 1), 1);
    }

    private static void behind(Edges e) {
        e.promise(23, "n (0 .. 100)");
        StrokesHeard x = Edges.one(0, 0);
        x.minutes(1);
        e.is("least", x.behind(0, 0), 12);
        e.is("greatest", x.behind(100, 0), 13);
        e.is("one minute more", x.behind(60, 0) - x.behind(59, 0), 1);
        e.outside("n", 0, 100, (y, v) -> y.behind(v, 0), BAD);
        e.promise(23, "what 0 .. 3");
        e.is("the first", x.behind(1, 0), 12);
        e.is("the last", x.behind(1, 3), 1);
        e.is("behind none, as it is", x.behind(0, 3), x.may(0));
        e.outside("what", 0, 3, (y, v) -> y.behind(1, v), BAD);
        e.promise(23, "z as it is: a hundred MINUTES come as they were thought");
        for (int what = 0; what < 4; what++) {
            StrokesHeard thinks = Edges.made(Edges::rich);
            StrokesHeard passes = Edges.made(Edges::rich);
            passes.minutes(100);
            e.is("what " + what, thinks.behind(100, what), what == 3 ? passes.may(0) : passes.bed(what));
        }
        e.promise(23, "behind n MINUTES clocks strike as they do, each by its OFF, TONE, KIND");
        StrokesHeard toned = new StrokesHeard();
        for (int tone = 1; tone <= 3; tone++) toned.clock(tone == 2 ? 4 : 2, 0, 3 * tone);
        Due.read(toned, "again t");
        int[] struck = {0, 28, 28, 28, 40, 40, 40, 44, 44, 44, 56};
        for (int n = 0; n <= 10; n++) e.is("behind " + n, toned.behind(n, 0), struck[n]);
        e.promise(23, "only thought: nothing changes");
        for (int w = 0; w < 4; w++) {
            int what = w;
            e.only("what " + what, Edges::rich, y -> y.behind(100, what));
        }
        e.promise(23, "without the bound of THE MINUTE");
        StrokesHeard late = Edges.one(0, 0);
        Edges.until(late, 9999);
        // 9999 is 13 half days and 639 minutes: eleven strikes in its 22nd minute, twelve in its 82nd
        int heard = late.bed(0);
        e.is("ahead of eleven", late.behind(21, 0), heard);
        e.is("eleven", late.behind(22, 0), heard + 11);
        e.is("ahead of twelve", late.behind(81, 0), heard + 11);
        e.is("twelve", late.behind(82, 0), heard + 23);
        e.is("THE MINUTE stays", late.count(1), 9999);
    }

    private static void listen(Edges e) {
        e.promise(24, "behind how many MINUTES (0 .. 60): the least");
        e.is("SURE already", twelveHeard(0).listen(), 0);
        e.is("in the first", Edges.one(0, 0).listen(), 1);
        e.promise(24, "behind how many MINUTES (0 .. 60): the greatest");
        StrokesHeard x = new StrokesHeard();
        x.minutes(1);
        x.clock(0, 0, 0);
        e.is("one strikes in the sixtieth", x.listen(), 60);
        x.minutes(1);
        e.is("a minute later", x.listen(), 59);
        e.promise(24, "NONE: not by then");
        e.is("without clocks", new StrokesHeard().listen(), NONE);
        e.is("by ones and fives", Edges.one(4, 0).listen(), NONE);
        StrokesHeard deaf = Edges.one(0, 0);
        deaf.ear(0, 0);
        e.is("nothing is heard", deaf.listen(), NONE);
        e.promise(24, "only thought: nothing changes");
        e.only("the greatest", y -> {
            Edges.rich(y);
            y.ear(0, 100);
            y.ear(1, 0);
        }, y -> y.listen() == NONE ? 0 : 1);
        e.promise(24, "without the bound of THE MINUTE");
        StrokesHeard late = Edges.one(0, 0);
        Edges.until(late, 9999);
        e.is("eleven", late.listen(), 22);
    }
}
