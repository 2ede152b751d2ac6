import java.util.ArrayList;
import java.util.List;

/**
 * All that an object can be made to tell, in rows: two objects that tell the same rows are alike.
 * The object is used up by it: its last slot, its tape, what waits and its state are gone then.
 */
final class Probe {
    private static final int PROBED_SLOT = 4;
    private final StrokesHeard x;
    private final List<String> rows = new ArrayList<>();

    private Probe(StrokesHeard x) {
        this.x = x;
    }

    static List<String> of(StrokesHeard x) {
        Probe probe = new Probe(x);
        probe.state("");
        probe.slots();
        probe.sheets();
        probe.row("check(2)", x.check(2));
        probe.row("text()", x.text());
        probe.laws("behind text() ");
        probe.row("back()", x.back());
        probe.state("behind back() ");
        return probe.rows;
    }

    private void row(String call, int answer) {
        rows.add(call + " = " + answer);
    }

    private void state(String when) {
        for (int what = 0; what < 8; what++) row(when + "count(" + what + ")", x.count(what));
        for (int what = 0; what < 4; what++) row(when + "bed(" + what + ")", x.bed(what));
        for (int k = 0; k < 12; k++) row(when + "note(" + k + ")", x.note(k));
        for (int c = 0; c < x.count(0); c++) {
            for (int what = 0; what < 5; what++) row(when + "told(" + c + ", " + what + ")", x.told(c, what));
        }
        for (int t = 0; t < x.count(4); t++) {
            for (int what = 0; what < 2; what++) row(when + "textTold(" + t + ", " + what + ")", x.textTold(t, what));
        }
        row(when + "may(0)", x.may(0));
        laws(when);
    }

    private void laws(String when) {
        for (int key = 0; key < 3; key++) row(when + "why(" + key + ")", x.why(key));
        for (int c = 0; c < x.count(0); c++) row(when + "fine(" + c + ")", x.fine(c));
        row(when + "fee()", x.fee());
    }

    private void slots() {
        for (int slot = 0; slot < 5; slot++) {
            for (int kind = 0; kind < 6; kind++) row("ask(" + slot + ", " + kind + ")", x.ask(slot, kind));
            row("rest(" + slot + ", least)", x.rest(slot, Integer.MIN_VALUE));
            row("rest(" + slot + ", 3)", x.rest(slot, 3));
            items(slot, "slot " + slot);
        }
    }

    private void sheets() {
        for (int from = 0; from < 4; from++) {
            for (int to = from + 1; to < 4; to++) {
                row("copy none from " + from + " to " + to, x.copy(from, 0, to, 0, 0));
            }
        }
        for (int sheet = 0; sheet < 4; sheet++) {
            x.lay(PROBED_SLOT, 0, 0);
            x.lay(PROBED_SLOT, 2, sheet);
            items(PROBED_SLOT, "sheet " + sheet);
        }
    }

    /** The places of the sheet in a slot, as far as there are some. */
    private void items(int slot, String whose) {
        int there = x.item(slot, -1);
        row("item -1 of " + whose, there);
        for (int place = 0; place <= 24 && there == StrokesHeard.INDEX; place++) {
            int answer = x.item(slot, place);
            row("item " + place + " of " + whose, answer);
            if (answer == StrokesHeard.INDEX) return;
        }
    }
}
