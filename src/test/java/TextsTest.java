/** Promises 27 to 31, and what the laws give: again, fee, fine. */
public final class TextsTest {
    private static final int BAD = StrokesHeard.BAD, FULL = StrokesHeard.FULL, NONE = StrokesHeard.NONE;
    private static final Due due = new Due();

    private static void tape() {
        StrokesHeard x = new StrokesHeard();
        for (int i = 1; i <= 8; i++) due.is("feed", x.feed(0x66656520, 0x65202020, 0x20202020), 12 * i);
        due.is("full", x.feed(0, 0, 0), FULL);
        due.is("stays", x.count(6), 96);
        due.is("too much", x.trim(97), BAD);
        due.is("below", x.trim(-1), BAD);
        due.is("all", x.trim(96), 96);
        due.is("some", x.trim(85), 85);
        due.is("still full", x.feed(0, 0, 0), FULL);
        due.is("twelve fit", x.trim(84), 84);
        due.is("feed", x.feed(0, 0, 0), 96);
        due.is("first", x.trim(5), 5);
        due.is("fee e", x.text(), 0);
        due.is("used up", x.count(6), 0);
        due.is("nothing left", x.trim(0), 0);
        due.is("nothing to keep", x.trim(1), BAD);
        due.is("an empty tape ends too soon", x.text(), -100);
        // the highest byte first: "fine", " o+t", " *2 "
        due.is("feed", x.feed(0x66696E65, 0x206F2B74, 0x202A3220), 12);
        due.is("in order", x.text(), 1);
        x.clock(0, 30, 4);
        due.is("30 and 8", x.fine(0), 38);
    }

    private static void fault(String text, int place) {
        StrokesHeard x = new StrokesHeard();
        due.is("'" + text + "'", Due.read(x, text), place < 0 ? 0 : -100 - place);
        due.is("used up", x.count(6), 0);
        due.is("texts", x.count(4), place < 0 ? 1 : 0);
    }

    private static void faults() {
        fault("again 5", -1);
        fault("  fee  ( e )  ", -1);
        fault("fine!o", -1);
        fault("fine(t)", -1);
        fault("fee e|m&1<2+3*4/(5-!6)", -1);
        fault("", 0);
        fault("     ", 5);
        fault("again", 5);
        fault("again  ", 7);
        fault("again5", 5);
        fault("again 5o", 7);
        fault("fee e1", 5);
        fault("fees", 0);
        fault(" Fee e", 1);
        fault("5", 0);
        fault("(fee e)", 0);
        fault("fee fee", 4);
        fault("fee o", 4);
        fault("fine h", 5);
        fault("again e", 6);
        fault("again oo", 6);
        fault("fee 9999", -1);
        fault("fee 10000", 4);
        fault("fee 00000", 4);
        fault("fee 0001", -1);
        fault("fee e e", 6);
        fault("fee 1 2", 6);
        fault("fee e<m<1", 7);
        fault("fee e<m&m<1", -1);
        fault("fee e<(m<1)", -1);
        fault("fee e<m|m=1&2>1", -1);
        fault("fee -1", 4);
        fault("fee 1--1", 6);
        fault("fee 1!", 5);
        fault("fee 1(2)", 5);
        fault("fee (1", 6);
        fault("fee (1  ", 8);
        fault("fee ()", 5);
        fault("fee (1))", 7);
        fault("fee 1+", 6);
        fault("fee 1<", 6);
        fault("fee !", 5);
        fault("fee 1?", 5);
        fault("fee 1\u0000", 5);
        fault("fee 1\u00e6", 5);
        fault("fee\t1", 3);
        fault("fee 1+*2", 6);
        fault("fee 1<=2", 6);
        fault("fee ez", 4);
        fault("fee ae", 4);
        fault("fee 1z", 5);
        fault("xgain 5", 0);
        fault("aga", 0);
        fault("againh", 0);
        fault("again h", -1);
    }

    /** What was read before leaves no trace. */
    private static void oneBehindAnother() {
        StrokesHeard x = new StrokesHeard();
        due.is("stops at a word", Due.read(x, "fee oo"), -104);
        due.is("begins with a word", Due.read(x, "fee e+1"), 0);
        due.is("stops at a sign", Due.read(x, "fee (1+2+3+4"), -112);
        due.is("goes on", Due.read(x, "fee m"), 1);
        due.is("one piece", x.textTold(1, 1), 1);
        due.is("the fee", x.fee(), 0);
        due.is("two", x.count(4), 2);
    }

    private static void depths() {
        fault("fee " + "(".repeat(8) + "1" + ")".repeat(8), -1);
        fault("fee " + "(".repeat(9) + "1" + ")".repeat(9), 12);
        fault("fee " + "(1)+".repeat(12) + "(1)", -1);
        fault("fee " + "!".repeat(8) + "1", -1);
        fault("fee " + "!".repeat(9) + "1", 12);
        fault("fee " + "!1+".repeat(12) + "1", -1);
        fault("fee " + "!(".repeat(8) + "1" + ")".repeat(8), -1);
        fault("fee " + "!(".repeat(8) + "!1" + ")".repeat(8), 20);
        fault("fee " + "!!!!!!!(!1)+!(!!!!!!!1)", -1);
        fault("fee " + "!!!!!!!(!!1)", 13);
        fault("fee " + "((((((((1))))))))+((((((((!!!!!!!!1))))))))", -1);
    }

    private static void gives(String expression, int value) {
        StrokesHeard x = new StrokesHeard();
        x.clock(0, 30, 4);
        due.is("'" + expression + "'", Due.read(x, "fine " + expression), 0);
        due.is(expression, x.fine(0), value);
    }

    private static void values() {
        gives("o", 30);
        gives("t", 4);
        gives("7", 7);
        gives("0009", 9);
        gives("2+3*4", 14);
        gives("(2+3)*4", 20);
        gives("9-3-2", 4);
        gives("90/3/2", 15);
        gives("90/4*4", 88);
        gives("7/2", 3);
        gives("(0-7)/2", -3);
        gives("5/0", 0);
        gives("0/0", 0);
        gives("1<2", 1);
        gives("2<2", 0);
        gives("2=2", 1);
        gives("1=2", 0);
        gives("3>2", 1);
        gives("2>2", 0);
        gives("1+1<2+1", 1);
        gives("!0", 1);
        gives("!7", 0);
        gives("!!7", 1);
        gives("!0+5", 6);
        gives("!(0+5)", 0);
        gives("3&4", 1);
        gives("3&0", 0);
        gives("0|4", 1);
        gives("0|0", 0);
        gives("1|0&0", 1);
        gives("(1|0)&0", 0);
        gives("0&1|2", 1);
        gives("1<2&3", 1);
        gives("o-t*5=10", 1);
        gives("9999*9999*9999", 9999 * 9999 * 9999);
        gives("(0-9999)*9999*9999-1", -9999 * 9999 * 9999 - 1);
        // -2147483648 by -1 is itself: ints wrap
        gives("(0-8*8*8*8*8*8*8*8*8*8*2)/(0-1)", Integer.MIN_VALUE);
    }

    private static void textTold() {
        StrokesHeard x = new StrokesHeard();
        due.is("why none", x.why(0), NONE);
        due.is("why below", x.why(-1), BAD);
        due.is("why above", x.why(3), BAD);
        due.is("none", x.textTold(0, 0), BAD);
        Due.read(x, "fine o+t*3-(o)");
        Due.read(x, "again h");
        Due.read(x, "fee !12");
        due.is("fine", x.textTold(0, 0), 2);
        due.is("four", x.textTold(0, 1), 4);
        due.is("again", x.textTold(1, 0), 0);
        due.is("one", x.textTold(1, 1), 1);
        due.is("fee", x.textTold(2, 0), 1);
        due.is("one", x.textTold(2, 1), 1);
        due.is("text above", x.textTold(3, 0), BAD);
        due.is("text below", x.textTold(-1, 0), BAD);
        due.is("what above", x.textTold(0, 2), BAD);
        due.is("what below", x.textTold(0, -1), BAD);
        due.is("why again", x.why(0), 1);
        due.is("why fee", x.why(1), 2);
        due.is("why fine", x.why(2), 0);
        for (int i = 3; i < 14; i++) due.is("text " + i, Due.read(x, "fine " + i), i);
        due.is("full", Due.read(x, "fine 99"), FULL);
        due.is("full uses the tape up too", x.count(6), 0);
        due.is("a fault is said first", Due.read(x, "fine x"), -105);
        due.is("fourteen", x.count(4), 14);
        due.is("the last counts", x.why(2), 13);
        x.clock(0, 1, 1);
        due.is("the last gives", x.fine(0), 13);
    }

    private static void again() {
        StrokesHeard x = new StrokesHeard();
        x.clock(2, 3, 8);
        x.clock(4, 0, 5);
        x.clock(1, 0, 5);
        due.is("without a text at 2", x.strokes(0, 60 * 7 + 3 + 2), 7);
        Due.read(x, "again h+o");
        due.is("not at 2 any more", x.strokes(0, 60 * 7 + 3 + 2), 0);
        due.is("at seven 7 and 3", x.strokes(0, 60 * 7 + 3 + 10), 7);
        due.is("at twelve held", x.strokes(0, 3 + 14), 12);
        due.is("at eleven 14", x.strokes(0, 660 + 3 + 14), 11);
        due.is("the other has another off", x.strokes(1, 60 * 7 + 7), 3);
        due.is("quarters don't mind", x.strokes(2, 60 * 7 + 7), 0);
        due.is("once an hour", x.told(0, 4), 156);
        Due.read(x, "again t-8");
        due.is("held above 0", x.strokes(0, 60 + 3 + 1), 1);
        due.is("the full hour stays", x.strokes(0, 60 + 3), 1);
        Due.read(x, "again 0-9");
        due.is("held above 0 likewise", x.strokes(1, 60 * 9 + 1), 5);
        Due.read(x, "again 9999");
        due.is("held below 15", x.strokes(1, 60 * 9 + 14), 5);
        due.is("not at the quarter", x.strokes(1, 60 * 9 + 15), 0);
        x.minutes(15);
        due.is("it is heard so", x.note(0), 4);
    }

    public static void main(String[] args) {
        tape();
        faults();
        oneBehindAnother();
        depths();
        values();
        textTold();
        again();
        due.end();
    }
}
