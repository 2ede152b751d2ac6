/** Edges of promises 12 to 14, and of what the document's second term says of a minute. */
final class MinuteEdges {
    private static final int BAD = StrokesHeard.BAD, NONE = StrokesHeard.NONE;

    static void all(Edges e) {
        minutes(e);
        lastMinute(e);
        heardOrMissed(e);
        mistaken(e);
        round(e);
        bed(e);
        note(e);
    }

    private static void minutes(Edges e) {
        e.promise(12, "n (1 .. 100) MINUTES");
        StrokesHeard x = Edges.one(0, 0);
        e.is("least", x.minutes(1), 12);
        e.is("one has passed", x.count(1), 1);
        e.is("greatest", x.minutes(100), 1);
        e.is("a hundred more have passed", x.count(1), 101);
        e.outside("n", 1, 100, (y, v) -> y.minutes(v), BAD);
        e.promise(12, "by how much HEARD is more");
        e.is("not what it is in all", x.minutes(20), 2);
        e.is("in all", x.bed(0), 15);
        e.is("nothing", new StrokesHeard().minutes(100), 0);
        e.promise(12, "a draw for each stroke, and one more");
        StrokesHeard silent = new StrokesHeard();
        silent.minutes(2);
        e.is("two silent minutes", silent.count(7), Edges.nextZ(Edges.nextZ(1)));
        StrokesHeard struck = Edges.one(4, 0);
        struck.minutes(1);
        int z = 1;
        for (int i = 0; i < 5; i++) z = Edges.nextZ(z);
        e.is("four strokes", struck.count(7), z);
    }

    private static StrokesHeard at(int minute) {
        StrokesHeard x = Edges.one(0, 38);
        Edges.until(x, minute);
        return x;
    }

    private static void lastMinute(Edges e) {
        // 9998 is 13 half days and 638 minutes: a clock that is late by 38 strikes ten then
        e.promise(12, "THE MINUTE is .. 9999 at most: a hundred reach it");
        StrokesHeard x = at(9899);
        e.is("heard", x.minutes(100), 9 + 10);
        e.is("THE MINUTE", x.count(1), 9999);
        e.promise(12, "no more than up to 9999: one less than asked for");
        x = at(9900);
        e.is("heard", x.minutes(100), 9 + 10);
        e.is("THE MINUTE", x.count(1), 9999);
        e.promise(12, "no more than up to 9999: the last one");
        x = at(9998);
        e.is("heard", x.minutes(100), 10);
        e.is("THE MINUTE", x.count(1), 9999);
        e.is("newest", x.note(0), 10);
        e.promise(12, "no more than up to 9999: none is left");
        e.is("heard", x.minutes(100), 0);
        e.is("heard in one", x.minutes(1), 0);
        e.alike("nothing has passed", x, at(9999));
        e.promise(12, "BAD at 9999 too");
        e.refused("none", y -> Edges.until(y, 9999), y -> y.minutes(0), BAD);
        e.refused("too many", y -> Edges.until(y, 9999), y -> y.minutes(101), BAD);
    }

    /** A clock that strikes once, by each of some seeds, with an ear just too dull and just sharp enough. */
    private static void heardOrMissed(Edges e) {
        e.promise(12, "if its rest by 100 is below EAR, it is heard, else not");
        for (int seed = -40; seed <= 40; seed++) {
            int rest = Edges.given(seed) % 100;
            for (int ear = rest; ear <= rest + 1; ear++) {
                StrokesHeard x = Edges.one(1, 45);
                Edges.until(x, 60);
                x.ear(0, ear);
                x.seed(seed);
                int heard = ear > rest ? 1 : 0;
                e.is("rest " + rest + " with EAR " + ear, x.minutes(1), heard);
                e.is("MISSED", x.bed(1), 1 - heard);
                e.is("NOTE", x.note(0), heard);
            }
        }
        e.promise(12, "EAR 0: none is heard");
        StrokesHeard deaf = Edges.one(3, 0);
        deaf.ear(0, 0);
        e.is("HEARD", deaf.minutes(100), 0);
        e.is("MISSED", deaf.bed(1), 16 + 1 + 2 + 3 + 5 + 1 + 2);
        e.promise(12, "EAR 100: all are heard");
        StrokesHeard sharp = Edges.one(3, 0);
        e.is("HEARD", sharp.minutes(100), 16 + 1 + 2 + 3 + 5 + 1 + 2);
        e.is("MISSED", sharp.bed(1), 0);
    }

    private static void mistaken(Edges e) {
        e.promise(12, "if its rest by 100 is below NOISE, one stroke more is taken for heard");
        for (int seed = -40; seed <= 40; seed++) {
            int rest = Edges.given(seed) % 100;
            for (int noise = rest; noise <= rest + 1; noise++) {
                StrokesHeard x = new StrokesHeard();
                x.ear(1, noise);
                x.seed(seed);
                int taken = noise > rest ? 1 : 0;
                e.is("rest " + rest + " with NOISE " + noise + ": HEARD stays", x.minutes(1), 0);
                e.is("MISTAKEN", x.bed(2), taken);
                e.is("NOTE", x.note(0), taken);
                e.is("MISSED", x.bed(1), 0);
            }
        }
        e.promise(12, "NOISE 0: nothing is mistaken");
        StrokesHeard quiet = new StrokesHeard();
        quiet.minutes(100);
        e.is("MISTAKEN", quiet.bed(2), 0);
        e.promise(12, "NOISE 100: each minute one stroke is mistaken, and HEARD stays");
        StrokesHeard loud = Edges.one(0, 0);
        loud.ear(1, 100);
        e.is("HEARD", loud.minutes(1), 12);
        e.is("How many were heard, with that one", loud.note(0), 13);
        e.is("HEARD in all", loud.minutes(99) + 12, 13);
        e.is("MISTAKEN", loud.bed(2), 100);
        e.is("the newest NOTE", loud.note(0), 1);
    }

    private static void round(Edges e) {
        e.promise(12, "THE TIME is the rest of THE MINUTE by 720");
        StrokesHeard x = Edges.one(0, 0);
        Edges.until(x, 719);
        e.is("the last of the half day", x.minutes(1), 0);
        e.is("the first of the next", x.minutes(1), 12);
        e.is("THE MINUTE goes on", x.count(1), 721);
    }

    private static void bed(Edges e) {
        e.promise(13, "What is 0 .. 3");
        StrokesHeard x = Edges.one(0, 0);
        x.minutes(1);
        e.is("the first", x.bed(0), 12);
        e.is("the last", x.bed(3), 1);
        e.outside("what", 0, 3, (y, v) -> y.bed(v), BAD);
        e.promise(13, "how many NOTES there are: the latest 12 are kept");
        StrokesHeard y = new StrokesHeard();
        e.is("none", y.bed(3), 0);
        for (int n = 1; n <= 14; n++) {
            y.minutes(1);
            e.is("behind " + n, y.bed(3), Math.min(n, 12));
        }
    }

    private static void note(Edges e) {
        e.promise(14, "NOTE k (0 .. 11)");
        StrokesHeard x = Edges.one(2, 0);
        x.minutes(12);
        e.is("the newest", x.note(0), 0);
        e.is("the oldest", x.note(11), 12);
        e.is("the oldest but two", x.note(9), 12);
        e.outside("k", 0, 11, (y, v) -> y.note(v), BAD);
        e.promise(14, "the latest 12 NOTES are kept");
        x.minutes(1);
        e.is("the thirteenth is gone", x.note(11), 0);
        e.is("the others are older by one", x.note(10), 12);
        e.promise(14, "NONE: there is none");
        StrokesHeard y = Edges.one(0, 0);
        for (int k = 0; k < 12; k++) e.is("of none, NOTE " + k, y.note(k), NONE);
        y.minutes(11);
        e.is("the eleventh", y.note(10), 12);
        e.is("no twelfth", y.note(11), NONE);
        e.refused("no twelfth", z -> z.minutes(11), z -> z.note(11), NONE);
        e.promise(14, "BAD; NONE: of several the one that stands first");
        e.is("beyond, of none", new StrokesHeard().note(12), BAD);
        e.is("below, of none", new StrokesHeard().note(-1), BAD);
    }
}
