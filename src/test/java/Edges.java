import java.util.List;
import java.util.TreeSet;
import java.util.function.Consumer;
import java.util.function.ToIntFunction;

/** What the tests of the document's boundary cases share: each begins by naming its promise and sentence. */
final class Edges {
    interface Ask {
        int ask(StrokesHeard x, int v);
    }

    private static final int PROMISES = 45;
    private final Due due = new Due();
    private final TreeSet<Integer> promises = new TreeSet<>();
    private String sentence = "";
    private int sentences = 0;
    private int checks = 1;

    /** Begins the test of one sentence of the document, which belongs to this promise. */
    void promise(int number, String words) {
        due.is(sentence + " has a check", checks > 0 ? 1 : 0, 1);
        promises.add(number);
        sentence = "promise " + number + " (" + words + ")";
        sentences++;
        checks = 0;
    }

    void is(String what, int got, int want) {
        checks++;
        due.is(sentence + ": " + what, got, want);
    }

    /** The call is refused, and a twin that was never asked tells all the same. */
    void refused(String what, Consumer<StrokesHeard> setup, ToIntFunction<StrokesHeard> call, int answer) {
        StrokesHeard asked = made(setup);
        is(what, call.applyAsInt(asked), answer);
        alike(what + " changes nothing", asked, made(setup));
    }

    void refused(String what, ToIntFunction<StrokesHeard> call, int answer) {
        refused(what, Edges::rich, call, answer);
    }

    /** The first values on either side that are refused, and the farthest ones. */
    void outside(String what, int least, int most, Ask call, int answer) {
        for (int v : new int[] {least - 1, most + 1, Integer.MIN_VALUE, Integer.MAX_VALUE}) {
            refused(what + " " + v, x -> call.ask(x, v), answer);
        }
    }

    /** The call is answered, and changes nothing. */
    void only(String what, Consumer<StrokesHeard> setup, ToIntFunction<StrokesHeard> call) {
        StrokesHeard asked = made(setup);
        int answer = call.applyAsInt(asked);
        is(what + " is no refusal: " + answer, answer > StrokesHeard.BAD ? 1 : 0, 1);
        alike(what + " changes nothing", asked, made(setup));
    }

    void alike(String what, StrokesHeard one, StrokesHeard other) {
        List<String> first = Probe.of(one);
        List<String> second = Probe.of(other);
        String unlike = "";
        for (int i = 0; i < Math.max(first.size(), second.size()) && unlike.isEmpty(); i++) {
            String a = i < first.size() ? first.get(i) : "nothing more";
            String b = i < second.size() ? second.get(i) : "nothing more";
            if (!a.equals(b)) unlike = ", but " + a + ", and not " + b;
        }
        is(what + unlike, unlike.isEmpty() ? 1 : 0, 1);
    }

    static StrokesHeard made(Consumer<StrokesHeard> setup) {
        StrokesHeard x = new StrokesHeard();
        setup.accept(x);
        return x;
    }

    static StrokesHeard one(int kind, int off) {
        return one(kind, off, 0);
    }

    static StrokesHeard one(int kind, int off, int tone) {
        return made(x -> x.clock(kind, off, tone));
    }

    /**
     * An object with something of everything: three clocks, an image of an earlier state, laws, a text on the
     * tape, numbers that wait (three right ones and a wrong one), sheets 0 of shorts, 1 of floats, 2 without
     * places, 3 missing, slots 0 with a clock, 1 with a sheet, 2 with a number, 3 and 4 with nothing.
     */
    static void rich(StrokesHeard x) {
        image(x);
        x.clock(2, 59, 9);
        x.clock(5, 0, 0);
        x.ear(0, 80);
        x.ear(1, 10);
        Due.read(x, "fee e*2+m");
        x.minutes(70);
        row(x, 0, 0, 3, -4, 500);
        row(x, 1, 1, 12, StrokesHeard.NONE, -7, 61);
        x.sheet(2, 0, 0);
        x.lay(0, 1, 1);
        x.lay(1, 2, 1);
        x.lay(2, 3, -1234567);
        StrokesHeard later = made(Edges::image);
        for (int i = 0; i < 2; i++) {
            later.minutes(1);
            x.tell(later.bed(0));
            x.tell(later.note(0) + i);
        }
        Due.put(x, "fine o*t+5");
    }

    private static void image(StrokesHeard x) {
        x.clock(3, 7, 2);
        x.ear(0, 60);
        x.ear(1, 30);
        x.seed(77);
        Due.read(x, "again h+1");
        x.minutes(9);
        x.keep();
    }

    /** The rich one with as many clocks as there can be. */
    static void sixClocks(StrokesHeard x) {
        rich(x);
        for (int i = 0; i < 3; i++) x.clock(0, i, i);
    }

    static void row(StrokesHeard x, int sheet, int sort, int... values) {
        x.sheet(sheet, sort, values.length);
        for (int i = 0; i < values.length; i++) x.mark(sheet, i, values[i]);
    }

    /** A place of a sheet, told by way of the last slot. */
    static int at(StrokesHeard x, int sheet, int place) {
        x.lay(4, 2, sheet);
        return x.item(4, place);
    }

    /** Minutes pass until THE MINUTE is this one. */
    static void until(StrokesHeard x, int minute) {
        for (int at = x.count(1); at < minute; at += 100) x.minutes(Math.min(100, minute - at));
    }

    /** z behind a draw, and what the draw gives, both by longs, since the document's ints wrap. */
    static int nextZ(int z) {
        return (int) (z * 1103515245L + 12345L);
    }

    static int given(int z) {
        return (int) ((nextZ(z) & 0xffffffffL) / 256);
    }

    void end() {
        due.is(sentence + " has a check", checks > 0 ? 1 : 0, 1);
        for (int number = 1; number <= PROMISES; number++) {
            due.is("sentences of promise " + number, promises.contains(number) ? 1 : 0, 1);
        }
        System.out.println(sentences + " sentences");
        due.end();
    }
}
