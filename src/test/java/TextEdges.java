/** Edges of promises 25 to 31, and of what the document's fourth term says of texts. */
final class TextEdges {
    private static final int BAD = StrokesHeard.BAD, FULL = StrokesHeard.FULL, NONE = StrokesHeard.NONE;

    static void all(Edges e) {
        feeAndFine(e);
        feed(e);
        trim(e);
        words(e);
        blanks(e);
        numbers(e);
        names(e);
        keys(e);
        nested(e);
        tests(e);
        ends(e);
        values(e);
        fourteen(e);
        usedUp(e);
        textTold(e);
        why(e);
    }

    /** A text is read by a rich object, whose laws must stay as they were where it is no TEXT. */
    private static void fault(Edges e, String text, int place) {
        StrokesHeard x = Edges.made(Edges::rich);
        e.is("'" + text + "'", Due.read(x, text), -100 - place);
        StrokesHeard twin = Edges.made(Edges::rich);
        twin.trim(0);
        e.alike("'" + text + "' changes nothing but the tape", x, twin);
    }

    private static void good(Edges e, String text) {
        StrokesHeard x = new StrokesHeard();
        e.is("'" + text + "'", Due.read(x, text), 0);
        e.is("'" + text + "' is one more", x.count(4), 1);
    }

    private static void gives(Edges e, String expression, int value) {
        StrokesHeard x = new StrokesHeard();
        x.clock(0, 59, 9);
        e.is("'" + expression + "' is read", Due.read(x, "fine " + expression), 0);
        e.is(expression, x.fine(0), value);
    }

    private static void feeAndFine(Edges e) {
        e.promise(25, "without a TEXT: HEARD");
        StrokesHeard x = new StrokesHeard();
        e.is("nothing is heard", x.fee(), 0);
        x.clock(0, 0, 0);
        x.keep();
        x.minutes(1);
        e.is("twelve", x.fee(), 12);
        e.is("a law of another KEY", Due.read(x, "fine 3"), 0);
        e.is("still twelve", x.fee(), 12);
        e.promise(25, "e HEARD, m MISSED");
        x.ear(0, 0);
        x.minutes(60);
        Due.read(x, "fee e*100+m");
        e.is("twelve and one", x.fee(), 1201);
        e.promise(25, "what fee gives: any int");
        Due.read(x, "fee 8*8*8*8*8*8*8*8*8*8*2");
        e.is("the least", x.fee(), Integer.MIN_VALUE);
        Due.read(x, "fee 8*8*8*8*8*8*8*8*8*8*2-1");
        e.is("the greatest", x.fee(), Integer.MAX_VALUE);
        e.promise(25, "without a TEXT, again: as THE IMAGE");
        x.back();
        e.is("nothing is heard", x.fee(), 0);
        e.promise(26, "BAD: no such CLOCK");
        e.is("the last", Edges.made(Edges::rich).fine(2), 0);
        e.outside("clock", 0, 2, (y, v) -> y.fine(v), BAD);
        e.refused("of none", y -> Due.read(y, "fine 7"), y -> y.fine(0), BAD);
        e.promise(26, "without a TEXT: OFF");
        StrokesHeard y = new StrokesHeard();
        y.clock(0, 59, 9);
        y.clock(0, 0, 0);
        e.is("greatest", y.fine(0), 59);
        e.is("least", y.fine(1), 0);
        e.promise(26, "o OFF, t TONE");
        Due.read(y, "fine o*100+t");
        e.is("greatest", y.fine(0), 5909);
        e.is("least", y.fine(1), 0);
    }

    private static void feed(Edges e) {
        e.promise(27, "Twelve bytes come to THE TAPE: how many it has");
        StrokesHeard x = new StrokesHeard();
        for (int i = 1; i <= 8; i++) e.is("feed " + i, x.feed(i, i, i), 12 * i);
        e.promise(27, "FULL: it would have more than 96");
        for (int has : new int[] {96, 95, 85}) {
            e.refused("has " + has, y -> fill(y, has), y -> y.feed(0x31313131, 0x31313131, 0x31313131), FULL);
        }
        StrokesHeard room = Edges.made(y -> fill(y, 84));
        e.is("has 84", room.feed(0x2b313131, 0x20202020, 0x20202032), 96);
        e.is("it stands there: two numbers, the last byte is one by itself", room.text(), -100 - 95);
        e.promise(27, "the highest of each number first");
        x.trim(0);
        x.feed(0x66656520, 0x31323334, 0x2d352020);
        e.is("'fee 1234-5  '", x.text(), 0);
        e.is("it gives", x.fee(), 1229);
        e.promise(27, "bytes: those above 127 too");
        x.feed(0x66656520, 0x31202020, 0x202020ff);
        e.is("the last is a sign", x.text(), -111);
        x.feed(0x66656520, 0x80000000, 0);
        e.is("the highest bit alone", x.text(), -104);
    }

    /** The tape gets "fee 1" and blanks, so many bytes in all. */
    private static void fill(StrokesHeard x, int many) {
        Due.put(x, "fee 1" + " ".repeat(many - 5));
    }

    private static void trim(Edges e) {
        e.promise(28, "THE TAPE keeps its first n bytes");
        StrokesHeard x = Edges.made(y -> fill(y, 96));
        e.is("all", x.trim(96), 96);
        e.is("one less", x.trim(95), 95);
        e.is("it has", x.count(6), 95);
        e.is("the first five", x.trim(5), 5);
        e.is("a TEXT", x.text(), 0);
        e.promise(28, "BAD: more than it has");
        e.refused("97 of 96", y -> fill(y, 96), y -> y.trim(97), BAD);
        e.refused("51 of 50", y -> fill(y, 50), y -> y.trim(51), BAD);
        e.refused("1 of 0", y -> { }, y -> y.trim(1), BAD);
        e.refused("far more", y -> y.trim(Integer.MAX_VALUE), BAD);
        e.promise(28, "BAD: below 0");
        e.refused("-1", y -> y.trim(-1), BAD);
        e.refused("far below", y -> y.trim(Integer.MIN_VALUE), BAD);
        e.promise(28, "n 0");
        e.is("of none", new StrokesHeard().trim(0), 0);
        StrokesHeard y = Edges.made(z -> fill(z, 50));
        e.is("of fifty", y.trim(0), 0);
        e.is("it has", y.count(6), 0);
        e.is("the end comes too soon", y.text(), -100);
        e.promise(28, "what was cut off is gone");
        StrokesHeard z = new StrokesHeard();
        Due.put(z, "fee 1234");
        z.trim(5);
        z.feed(0x20202020, 0x20202020, 0x20202020);
        z.text();
        e.is("one digit is left", z.fee(), 1);
        Due.put(z, "fee 1234");
        z.trim(6);
        e.is("cut within a NUMBER", z.text(), 1);
        e.is("two digits are left", z.fee(), 12);
        Due.put(z, "fine oooo");
        z.trim(6);
        e.is("cut within a word", z.text(), 2);
        Due.put(z, "fee eee");
        z.trim(3);
        e.is("cut behind the KEY", z.text(), -103);
    }

    private static void words(Edges e) {
        e.promise(29, "A word is a row of letters a .. z, as long as it goes");
        fault(e, "feea 1", 0);
        fault(e, "feez 1", 0);
        fault(e, "fee`", 3);
        fault(e, "fee{", 3);
        fault(e, "feeA", 3);
        fault(e, "feeZ", 3);
        e.promise(29, "or of digits, as long as it goes");
        good(e, "fee 0");
        good(e, "fee 9");
        fault(e, "fee 1:", 5);
        fault(e, "fee 1/", 6);
        fault(e, "fee 1 2", 6);
        e.promise(29, "any other byte is a sign by itself");
        for (int code = 0; code < 256; code++) {
            boolean word = code >= 'a' && code <= 'z' || code >= '0' && code <= '9';
            if (word || "|&<=>+-*/".indexOf(code) >= 0 || code == ' ') continue;
            StrokesHeard x = new StrokesHeard();
            e.is("byte " + code + " behind a PIECE", Due.read(x, "fee e" + (char) code), -105);
            if (code == '!' || code == '(') continue;
            e.is("byte " + code + " ahead of one", Due.read(x, "fee " + (char) code + "e"), -104);
            e.is("byte " + code + " ahead of all", Due.read(x, (char) code + "fee e"), -100);
        }
        e.promise(29, "FAULT: signs that go on at no place of their own");
        fault(e, "fee +1", 4);
        fault(e, "fee 1++1", 6);
        fault(e, "fee 1 !2", 6);
        fault(e, "fee 1(2)", 5);
        fault(e, "fee )", 4);
        fault(e, "fee 1)", 5);
        fault(e, "fee ()", 5);
        fault(e, "fee (1+)", 7);
        fault(e, "fee (1 2)", 7);
    }

    private static void blanks(Edges e) {
        e.promise(29, "Between words and signs, and at the ends, there may be blanks (byte 32)");
        good(e, "   fee   !  (  e   +  1  )   ");
        good(e, "fee!(e+1)");
        fault(e, "fee\t1", 3);
        fault(e, "fee 1\n", 5);
        fault(e, "fee\u001f1", 3);
        fault(e, "fee\u00a01", 3);
        e.promise(29, "blanks don't go through words");
        fault(e, "f ee 1", 0);
        fault(e, "fee 1 0", 6);
        e.promise(29, "a word that needs a blank ahead of it");
        fault(e, "fee1", 3);
        fault(e, "again5", 5);
        fault(e, "fine9999", 4);
        fault(e, "fee 1e", 5);
        fault(e, "fee e1", 5);
        good(e, "again 5");
        good(e, "again(5)");
        good(e, "again!5");
        good(e, "fee(e)&(m)");
    }

    private static void numbers(Edges e) {
        e.promise(29, "NUMBER (1 to 4 digits)");
        good(e, "fee 0");
        good(e, "fee 9999");
        good(e, "fee 0000");
        gives(e, "9999", 9999);
        gives(e, "0008", 8);
        e.promise(29, "a NUMBER of more than 4 digits");
        fault(e, "fee 10000", 4);
        fault(e, "fee 00000", 4);
        fault(e, "fee e + 123456789012345678901234567890", 8);
        fault(e, "fee 1+(12345)", 7);
    }

    private static void names(Edges e) {
        String[] keys = {"again", "fee", "fine"};
        String[] known = {"oth", "em", "ot"};
        for (int key = 0; key < 3; key++) {
            e.promise(29, "NAMES, each one letter: of " + keys[key]);
            int place = keys[key].length() + 1;
            for (char c = 'a'; c <= 'z'; c++) {
                boolean is = known[key].indexOf(c) >= 0;
                StrokesHeard x = new StrokesHeard();
                e.is("the letter " + c, Due.read(x, keys[key] + " " + c), is ? 0 : -100 - place);
                e.is("twice the letter " + c, Due.read(x, keys[key] + " " + c + c), -100 - place);
            }
        }
    }

    private static void keys(Edges e) {
        e.promise(29, "KEY: again | fee | fine");
        good(e, "again 1");
        good(e, "fee 1");
        good(e, "fine 1");
        fault(e, "agai 1", 0);
        fault(e, "againn 1", 0);
        fault(e, "fe 1", 0);
        fault(e, "fin 1", 0);
        fault(e, "fines 1", 0);
        fault(e, "a 1", 0);
        fault(e, "bgain 1", 0);
        fault(e, "agaim 1", 0);
        fault(e, "gee 1", 0);
        fault(e, "fef 1", 0);
        fault(e, "gine 1", 0);
        fault(e, "finf 1", 0);
        fault(e, "  1", 2);
        fault(e, "! fee 1", 0);
        e.promise(29, "KEY E: one KEY alone");
        fault(e, "fee fee 1", 4);
        fault(e, "fee 1 fee 1", 6);
    }

    private static void nested(Edges e) {
        e.promise(29, "the ninth ( that would be open within others");
        good(e, "fee " + "(".repeat(8) + "1" + ")".repeat(8));
        fault(e, "fee " + "(".repeat(9) + "1" + ")".repeat(9), 12);
        fault(e, "fee " + "(".repeat(92), 12);
        e.promise(29, "( that are open no more don't count");
        good(e, "fee " + "(1)+".repeat(22) + "(1)");
        good(e, "fee " + "(".repeat(8) + "1" + ")".repeat(8) + "*" + "(".repeat(8) + "1" + ")".repeat(8));
        fault(e, "fee " + "(".repeat(8) + "1)+((1", 4 + 8 + 1 + 1 + 1 + 1);
        e.promise(29, "the ninth ! likewise");
        good(e, "fee " + "!".repeat(8) + "1");
        fault(e, "fee " + "!".repeat(9) + "1", 12);
        fault(e, "fee " + "!".repeat(92), 12);
        e.promise(29, "! whose PIECE has ended don't count");
        good(e, "fee " + "!1+".repeat(30) + "1");
        good(e, "fee " + "!".repeat(8) + "1+" + "!".repeat(8) + "(1)+" + "!".repeat(8) + "1");
        e.promise(29, "! is open as long as its PIECE, brackets too");
        good(e, "fee !!!!(!!!!1)");
        fault(e, "fee !!!!(!!!!!1)", 13);
        good(e, "fee !!!!(1)+!!!!!1");
        e.promise(29, "each by itself");
        good(e, "fee " + "!(".repeat(8) + "1" + ")".repeat(8));
        fault(e, "fee " + "!(".repeat(8) + "!1", 20);
        fault(e, "fee " + "!(".repeat(8) + "(1", 20);
        e.promise(29, "eight of each give what they give");
        gives(e, "!".repeat(8) + "5", 1);
        gives(e, "(".repeat(8) + "5" + ")".repeat(8) + "*2", 10);
        gives(e, "!(".repeat(8) + "0" + ")".repeat(8), 0);
    }

    private static void tests(Edges e) {
        e.promise(29, "TEST: SUM [ (< | = | >) SUM ]: one sign at most");
        good(e, "fee 1<2");
        fault(e, "fee 1<2<3", 7);
        fault(e, "fee 1=2>3", 7);
        fault(e, "fee 1<=2", 6);
        good(e, "fee 1<2&2<3|3<4");
        good(e, "fee (1<2)<3");
        e.promise(29, "{ }: as many as there is room for");
        for (String sign : "| & + - * /".split(" ")) {
            String longest = "fee " + ("1" + sign).repeat(45) + "1";
            good(e, longest);
            fault(e, longest + sign, 96);
        }
    }

    private static void ends(Edges e) {
        e.promise(29, "the end (the place behind the last byte), if it comes too soon");
        fault(e, "", 0);
        fault(e, " ", 1);
        fault(e, " ".repeat(96), 96);
        fault(e, "fee", 3);
        fault(e, "fee  ", 5);
        fault(e, "fee 1+", 6);
        fault(e, "fee 1<", 6);
        fault(e, "fee 1 & ", 8);
        fault(e, "fee !", 5);
        fault(e, "fee (", 5);
        fault(e, "fee (1", 6);
        fault(e, "fee (1  ", 8);
        fault(e, "fee ((1)", 8);
        fault(e, "fee " + "1+".repeat(46), 96);
        e.promise(29, "a full TAPE whose last byte is the end of a word");
        good(e, "fee" + " ".repeat(92) + "e");
        good(e, "fee" + " ".repeat(89) + "9999");
        fault(e, " ".repeat(91) + "again", 96);
        fault(e, "fee" + " ".repeat(88) + "99999", 91);
        e.promise(29, "-100 less the place of its FAULT: the last byte of a full TAPE");
        fault(e, "fee 1" + " ".repeat(90) + "1", 95);
        fault(e, "fee 1" + " ".repeat(90) + "?", 95);
    }

    private static void values(Edges e) {
        e.promise(29, "/ cuts towards 0");
        gives(e, "7/2", 3);
        gives(e, "(0-7)/2", -3);
        gives(e, "7/(0-2)", -3);
        gives(e, "(0-7)/(0-2)", 3);
        gives(e, "1/2", 0);
        gives(e, "(0-1)/2", 0);
        e.promise(29, "/ is 0 by 0");
        gives(e, "5/0", 0);
        gives(e, "(0-5)/0", 0);
        gives(e, "0/0", 0);
        gives(e, "1+o/(t-9)", 1);
        e.promise(29, "Ints wrap");
        String two31 = "8*8*8*8*8*8*8*8*8*8*2";
        gives(e, two31, Integer.MIN_VALUE);
        gives(e, two31 + "-1", Integer.MAX_VALUE);
        gives(e, two31 + "-1+1", Integer.MIN_VALUE);
        gives(e, two31 + "*2", 0);
        gives(e, "(" + two31 + ")/(0-1)", Integer.MIN_VALUE);
        gives(e, "0-" + two31, Integer.MIN_VALUE);
        e.promise(29, "tests give 1 or 0");
        gives(e, "1<2", 1);
        gives(e, "2<2", 0);
        gives(e, "3<2", 0);
        gives(e, "2=2", 1);
        gives(e, "1=2", 0);
        gives(e, "1>2", 0);
        gives(e, "2>2", 0);
        gives(e, "3>2", 1);
        gives(e, two31 + "<0", 1);
        gives(e, "0-1<0", 1);
        gives(e, two31 + "<" + two31 + "-1", 1);
        e.promise(29, "& | ! give 1 or 0 (what is not 0 is true)");
        gives(e, "2&4", 1);
        gives(e, "(0-1)&1", 1);
        gives(e, "2&0", 0);
        gives(e, "0&2", 0);
        gives(e, "0|0", 0);
        gives(e, "0|7", 1);
        gives(e, "7|0", 1);
        gives(e, "!0", 1);
        gives(e, "!(0-1)", 0);
        gives(e, "!!7", 1);
        e.promise(29, "E, the loosest first");
        gives(e, "1|0&0", 1);
        gives(e, "0&0|1", 1);
        gives(e, "3&2=2", 1);
        gives(e, "2=1+1", 1);
        gives(e, "2+2*2", 6);
        gives(e, "!0*5", 5);
        gives(e, "!5+3", 3);
        e.promise(29, "{ }: from the left on");
        gives(e, "9-3-2", 4);
        gives(e, "9-3+2", 8);
        gives(e, "7/2*2", 6);
        gives(e, "100/10/5", 2);
        e.promise(29, "one PIECE is as it is");
        gives(e, "5", 5);
        gives(e, "(5)", 5);
        gives(e, "o", 59);
        gives(e, "t", 9);
    }

    private static void fourteenTexts(StrokesHeard x) {
        Edges.rich(x);
        for (int i = 2; i < 14; i++) Due.read(x, "fine " + i);
    }

    private static void fourteen(Edges e) {
        e.promise(29, "TEXTS, 14 at most, numbered from 0");
        StrokesHeard x = new StrokesHeard();
        for (int i = 0; i < 14; i++) e.is("text " + i, Due.read(x, "fee " + i), i);
        e.is("the last counts", x.fee(), 13);
        e.promise(29, "FULL");
        e.is("the fifteenth", Due.read(x, "fee 99"), FULL);
        e.is("it counts for nothing", x.fee(), 13);
        e.is("of a KEY that has none", Due.read(x, "fine 99"), FULL);
        e.is("it has none still", x.why(2), NONE);
        StrokesHeard full = Edges.made(TextEdges::fourteenTexts);
        Due.read(full, "again 9");
        e.alike("it changes nothing but the tape", full, Edges.made(TextEdges::fourteenTexts));
        e.promise(29, "-100 less the place of its FAULT; FULL: of several the one that stands first");
        e.is("a FAULT", Due.read(x, "fee ?"), -104);
        e.is("no bytes", x.text(), -100);
        e.promise(29, "room again with THE IMAGE");
        StrokesHeard y = new StrokesHeard();
        y.keep();
        for (int i = 0; i < 14; i++) Due.read(y, "fee " + i);
        y.back();
        e.is("the first", Due.read(y, "fee 5"), 0);
    }

    private static void usedUp(Edges e) {
        e.promise(29, "an act that reads it uses it up, whatever it answers");
        StrokesHeard x = new StrokesHeard();
        for (int i = 0; i < 14; i++) Due.read(x, "fee " + i);
        e.is("a TEXT", x.count(6), 0);
        Due.read(x, "fee 14");
        e.is("FULL", x.count(6), 0);
        Due.read(x, "fee ?");
        e.is("a FAULT", x.count(6), 0);
        e.is("nothing is left to read", x.text(), -100);
        e.promise(29, "what was read leaves nothing behind");
        StrokesHeard y = new StrokesHeard();
        e.is("a FAULT behind two pieces", Due.read(y, "fine o+t+"), -109);
        e.is("another KEY", Due.read(y, "fee e"), 0);
        e.is("one piece", y.textTold(0, 1), 1);
        e.is("its KEY", y.textTold(0, 0), 1);
    }

    private static void textTold(Edges e) {
        e.promise(30, "BAD: no such TEXT");
        e.outside("text", 0, 1, (x, v) -> x.textTold(v, 0), BAD);
        e.refused("of none", x -> { }, x -> x.textTold(0, 0), BAD);
        StrokesHeard full = Edges.made(TextEdges::fourteenTexts);
        e.is("the fourteenth", full.textTold(13, 0), 2);
        e.is("no fifteenth", full.textTold(14, 0), BAD);
        e.promise(30, "what 0, 1");
        e.outside("what", 0, 1, (x, v) -> x.textTold(0, v), BAD);
        e.promise(30, "KEY (0 again, 1 fee, 2 fine)");
        StrokesHeard x = new StrokesHeard();
        Due.read(x, "again 1");
        Due.read(x, "fee 1");
        Due.read(x, "fine 1");
        for (int key = 0; key < 3; key++) e.is("text " + key, x.textTold(key, 0), key);
        e.promise(30, "how many NUMBERS and NAMES it has");
        e.is("one at least", x.textTold(0, 1), 1);
        e.is("as many as there is room for", Due.read(x, "fee " + "1+e-".repeat(22) + "1+1"), 3);
        e.is("forty-six", x.textTold(3, 1), 46);
        Due.read(x, "again !(o+t)*(h=h)|12");
        e.is("each time it stands there", x.textTold(4, 1), 5);
    }

    private static void why(Edges e) {
        e.promise(31, "BAD: no such KEY");
        e.outside("key", 0, 2, (x, v) -> x.why(v), BAD);
        e.promise(31, "NONE");
        e.refused("no TEXT of it", x -> x.why(2), NONE);
        e.promise(31, "BAD; NONE: of several the one that stands first");
        e.is("above", new StrokesHeard().why(3), BAD);
        e.is("below", new StrokesHeard().why(-1), BAD);
        e.promise(31, "Of a KEY that TEXT counts that was told last");
        StrokesHeard x = new StrokesHeard();
        for (int key = 0; key < 3; key++) e.is("none of " + key, x.why(key), NONE);
        Due.read(x, "fine 1");
        e.is("the first", x.why(2), 0);
        Due.read(x, "fine 2");
        e.is("the second", x.why(2), 1);
        Due.read(x, "fine 3+");
        e.is("what is no TEXT counts for nothing", x.why(2), 1);
        Due.read(x, "again 1");
        e.is("another KEY", x.why(0), 2);
        e.is("this one stays", x.why(2), 1);
        e.promise(31, "the fourteenth TEXT counts");
        e.is("the last", Edges.made(TextEdges::fourteenTexts).why(2), 13);
    }
}
