/** Section 1 of the document, sentence by sentence: THE TAPE, LINES, ELEMENTS, WORDS and ROWS. */
public final class TapeAndLinesTests extends Bench {
    public static void main(String[] args) {
        tapeHasRoom();
        bytesTaken();
        bytesInOrder();
        cutTape();
        emptyTape();
        linesEnd();
        blankLines();
        blanksAround();
        bigLines();
        freeAheadAndBehind();
        heads();
        changes();
        names();
        asides();
        speeches();
        actions();
        firstThatFits();
        oneElement();
        words();
        sixtyElements();
        rowsHaveRoom();
        longWords();
        readAgain();
        elementCalls();
        rowByteCalls();
        end();
    }

    // ------------------------------------------------------------ THE TAPE

    private static void tapeHasRoom() {
        for (int n = 1; n <= 8; n++) {
            long letters = 0x4142434445464748L;
            says("THE TAPE has at most 1200 bytes");
            ScriptDesk x = fed("a".repeat(1199 - n));
            due("feed(.., " + n + ") at 1199 - n", x.feed(letters, n), 1199);
            x.cut(1200 - n);
            due("feed(.., " + n + ") at 1200 - n", x.feed(letters, n), 1200);
            says("FULL: it has more than 1200 - n");
            due("feed(.., " + n + ") at 1200", x.feed(letters, n), FULL);
            x.cut(1201 - n);
            due("feed(.., " + n + ") at 1201 - n", x.feed(letters, n), FULL);
            due("the tape stays", x.count(0), 1201 - n);
            due("though none would be taken", x.feed(0, n), FULL);
            x.cut(1200 - n);
            due("none is taken at 1200 - n", x.feed(0, n), 1200 - n);
        }
        says("BAD: n is not 1 .. 8");
        ScriptDesk x = new ScriptDesk();
        due("n 0", x.feed(65, 0), BAD);
        due("n 1", x.feed(65, 1), 1);
        due("n 8", x.feed(0x4141414141414141L, 8), 9);
        due("n 9", x.feed(65, 9), BAD);
        due("n -1", x.feed(65, -1), BAD);
        for (int n : FAR) {
            due("n " + n, x.feed(65, n), BAD);
        }
        due("nothing came", x.count(0), 9);
    }

    private static void bytesTaken() {
        says("of what is fed 10 and 32 .. 126 are taken; others are passed over");
        for (int b = 0; b <= 255; b++) {
            boolean taken = b == 10 || b >= 32 && b <= 126;
            ScriptDesk x = new ScriptDesk();
            due("feed(" + b + ", 1)", x.feed(b, 1), taken ? 1 : 0);
            due("count(0)", x.count(0), taken ? 1 : 0);
            boolean word = b > 32 && b <= 126;
            due("read() of " + b, x.read(), word ? 1 : 0);
            due("byte " + b, x.rowByte(0, 0, 0), word ? b : BAD);
            ScriptDesk y = new ScriptDesk();
            due("within others", y.feed(0x790078L | (long) b << 8, 3), taken ? 3 : 2);
        }
        ScriptDesk x = new ScriptDesk();
        x.feed(0x0041007F00420000L, 8);
        due("two of eight", x.count(0), 2);
        x.read();
        rowsAre(x, 0, "AB");
        due("one word, though others stood between", x.element(0, 1), 1);
    }

    private static void bytesInOrder() {
        says("n bytes come, the lowest of w, the highest of these first");
        String letters = "ABCDEFGH";
        for (int n = 1; n <= 8; n++) {
            ScriptDesk x = new ScriptDesk();
            due("feed", x.feed(0x4142434445464748L, n), n);
            x.read();
            rowsAre(x, 0, letters.substring(8 - n));
        }
        ScriptDesk x = new ScriptDesk();
        due("w below 0", x.feed(-1L << 16 | 0x4142, 2), 2);
        due("highest bit", x.feed(0xC142434445464748L, 8), 9);
        due("behind what was there", put(x, "Z"), 10);
        x.read();
        rowsAre(x, 0, "ABBCDEFGHZ");
    }

    private static void cutTape() {
        says("THE TAPE has only its first n bytes: how many went. BAD");
        ScriptDesk x = fed("ABCDE");
        due("cut(6) of 5", x.cut(6), BAD);
        due("cut(5) of 5", x.cut(5), 0);
        due("cut(4) of 5", x.cut(4), 1);
        due("cut(5) of 4", x.cut(5), BAD);
        due("cut(-1)", x.cut(-1), BAD);
        for (int n : FAR) {
            due("cut(" + n + ")", x.cut(n), BAD);
        }
        due("nothing went", x.count(0), 4);
        due("what comes later stands behind", put(x, "Z"), 5);
        x.read();
        rowsAre(x, 0, "ABCDZ");
        x = fed("a".repeat(1200));
        due("cut(1201) of 1200", x.cut(1201), BAD);
        due("cut(1200) of 1200", x.cut(1200), 0);
        due("cut(0) of 1200", x.cut(0), 1200);
        due("cut(0) of 0", x.cut(0), 0);
        due("cut(1) of 0", x.cut(1), BAD);
    }

    private static void emptyTape() {
        says("ScriptDesk(): An empty TAPE, no ELEMENTS");
        ScriptDesk x = new ScriptDesk();
        due("count(0)", x.count(0), 0);
        due("count(1)", x.count(1), 0);
        due("read()", x.read(), 0);
        due("element(0, 0)", x.element(0, 0), BAD);
        due("rowByte(0, 0, 0)", x.rowByte(0, 0, 0), BAD);
        due("insert(0, 5)", x.insert(0, 5), BAD);
    }

    // ------------------------------------------------------------ LINES

    private static void linesEnd() {
        says("READ, it is LINES, up to each 10 or the end");
        kinds("INT. A\nx", HEAD, ACTION);
        kinds("INT. A x", ACTION);
        rowsAre(desk("ab\ncd"), 0, "ab cd");
        says("nothing behind a last 10 is none");
        kinds("");
        kinds("\n");
        same("a 10 at the end", look(desk("BOB\nhi\n")), look(desk("BOB\nhi")));
        same("two at the end", look(desk("CUT TO:\n\n")), look(desk("CUT TO:")));
        kinds("BOB\n", ACTION);
        says("READ, it is LINES: as many as there can be on a full TAPE");
        kinds("\n".repeat(1200));
        kinds("\n".repeat(1199) + "x", ACTION);
        kinds("x" + "\n".repeat(1198) + "y", ACTION, ACTION);
        kinds("a\n".repeat(600), ACTION);
    }

    private static void blankLines() {
        says("A LINE is BLANK if it has blanks (32) alone, or nothing");
        kinds("a\n\nb", ACTION, ACTION);
        kinds("a\n \nb", ACTION, ACTION);
        kinds("a\n     \nb", ACTION, ACTION);
        kinds("a\n.\nb", ACTION);
        kinds("a\n . \nb", ACTION);
        kinds("\n \n  \n");
        kinds("   ");
    }

    private static void blanksAround() {
        says("Blanks ahead of and behind a LINE are not looked at");
        kinds("   INT. A", HEAD);
        kinds("CUT TO:   ", CHANGE);
        kinds("   CUT TO:   \n   ", CHANGE);
        kinds("    ABCDEFGHIJKLMNOPQRSTUVWX    \nx", NAME, SPEECH);
        kinds("BOB\n   (a)   ", NAME, ASIDE);
        kinds("  BOB  \n  hi  ", NAME, SPEECH);
        kinds("IN T. A", ACTION);
    }

    private static void bigLines() {
        says("It is BIG if it has one of A .. Z and none of a .. z");
        for (int b = 33; b <= 126; b++) {
            boolean capital = b >= 'A' && b <= 'Z';
            boolean small = b >= 'a' && b <= 'z';
            ScriptDesk x = fed((char) b + "\nx");
            x.read();
            due("alone " + (char) b, x.element(0, 0), capital ? NAME : ACTION);
            x = fed("B" + (char) b + "\nx");
            x.read();
            due("behind a capital " + (char) b, x.element(0, 0), small ? ACTION : NAME);
            x = fed((char) b + "B\nx");
            x.read();
            due("ahead of a capital " + (char) b, x.element(0, 0), small ? ACTION : NAME);
        }
        kinds("12 A\nx", NAME, SPEECH);
        kinds("A 12 b\nx", ACTION);
    }

    private static void freeAheadAndBehind() {
        says("FREE ahead: there is no LINE there, or it is BLANK");
        kinds("INT. A", HEAD);
        kinds("\nINT. A", HEAD);
        kinds("x\n  \nINT. A", ACTION, HEAD);
        kinds("x\nINT. A", ACTION);
        says("FREE behind: there is no LINE there, or it is BLANK");
        kinds("CUT:", CHANGE);
        kinds("CUT:\n", CHANGE);
        kinds("CUT:\n  ", CHANGE);
        kinds("CUT:\n\nx", CHANGE, ACTION);
        kinds("CUT:\n  \nx", CHANGE, ACTION);
        kinds("CUT:\nx", NAME, SPEECH);
        kinds("CUT:\n  x", NAME, SPEECH);
    }

    // ------------------------------------------------------------ KINDS

    private static void heads() {
        says("0 HEAD: BIG, begins with INT. or EXT., FREE ahead");
        kinds("INT.", HEAD);
        kinds("EXT.", HEAD);
        kinds("INT.A", HEAD);
        kinds("INT", ACTION);
        kinds("EXT", ACTION);
        kinds("INT A.", ACTION);
        kinds("EXIT.", ACTION);
        kinds("XINT. A", ACTION);
        kinds("INS. A", ACTION);
        kinds("ENT. A", ACTION);
        kinds("EXT: A", ACTION);
        kinds("int. a", ACTION);
        kinds("INT. a", ACTION);
        kinds("INT. " + "A".repeat(60), HEAD);
        kinds("INT. A\n\nEXT. B\n\nINT. C", HEAD, HEAD, HEAD);
        kinds("INT. A\nEXT. B", HEAD, ACTION);
        kinds("BOB\nINT. A", NAME, SPEECH);
    }

    private static void changes() {
        says("1 CHANGE: BIG, ends with a :, FREE ahead and behind");
        kinds("A:", CHANGE);
        kinds("A:B", ACTION);
        kinds("A;", ACTION);
        kinds(":A", ACTION);
        kinds(":", ACTION);
        kinds("a:", ACTION);
        kinds("A".repeat(30) + ":", CHANGE);
        kinds("A".repeat(23) + ":\nx", NAME, SPEECH);
        kinds("A".repeat(24) + ":\nx", ACTION);
        kinds("x\nA:", ACTION);
        kinds("BOB\nA:", NAME, SPEECH);
        kinds("INT. A\nA:", HEAD, ACTION);
        kinds("A:\n\nB:\n\nC:", CHANGE, CHANGE, CHANGE);
    }

    private static void names() {
        says("2 NAME: BIG, 24 bytes at most, FREE ahead, not FREE behind");
        kinds("A".repeat(23) + "\nx", NAME, SPEECH);
        kinds("A".repeat(24) + "\nx", NAME, SPEECH);
        kinds("A".repeat(25) + "\nx", ACTION);
        kinds("A" + " ".repeat(22) + "B\nx", NAME, SPEECH);
        kinds("A" + " ".repeat(23) + "B\nx", ACTION);
        kinds("A\nx", NAME, SPEECH);
        kinds("A", ACTION);
        kinds("A\n\nx", ACTION, ACTION);
        kinds("A\n  \nx", ACTION, ACTION);
        kinds("x\nA\nx", ACTION);
        kinds("\nA\nx", NAME, SPEECH);
        kinds("A\nB\nC", NAME, SPEECH);
        kinds("A\nx\n\nB\nx", NAME, SPEECH, NAME, SPEECH);
        kinds("INT. A\nBOB\nx", HEAD, ACTION);
        kinds("A.\nx", NAME, SPEECH);
    }

    private static void asides() {
        says("3 ASIDE: begins with (, ends with ), the LINE ahead is a NAME, an ASIDE or a SPEECH");
        kinds("A\n(b)", NAME, ASIDE);
        kinds("A\n()", NAME, ASIDE);
        kinds("A\n( )", NAME, ASIDE);
        kinds("A\n(B)", NAME, ASIDE);
        kinds("A\n(b) (c)", NAME, ASIDE);
        kinds("A\n(b)\n(c)", NAME, ASIDE, ASIDE);
        kinds("A\nb\n(c)", NAME, SPEECH, ASIDE);
        kinds("A\n(", NAME, SPEECH);
        kinds("A\n)", NAME, SPEECH);
        kinds("A\n(b", NAME, SPEECH);
        kinds("A\nb)", NAME, SPEECH);
        kinds("A\n(b).", NAME, SPEECH);
        kinds("A\n.(b)", NAME, SPEECH);
        kinds("A\n)b(", NAME, SPEECH);
        kinds("(b)", ACTION);
        kinds("\n(b)", ACTION);
        kinds("INT. A\n(b)", HEAD, ACTION);
        kinds("a\n(b)", ACTION);
        kinds("A\nb\n\n(c)", NAME, SPEECH, ACTION);
        kinds("CUT:\n\n(c)", CHANGE, ACTION);
    }

    private static void speeches() {
        says("4 SPEECH: the LINE ahead is one of these");
        kinds("A\nb", NAME, SPEECH);
        kinds("A\n(b)\nc", NAME, ASIDE, SPEECH);
        kinds("A\nb\n(c)\nd", NAME, SPEECH, ASIDE, SPEECH);
        kinds("INT. A\nb", HEAD, ACTION);
        kinds("a\nb", ACTION);
        kinds("A\nb\n\nc", NAME, SPEECH, ACTION);
        kinds("A\n(b)\n\nc", NAME, ASIDE, ACTION);
        kinds("CUT:\n\nb", CHANGE, ACTION);
    }

    private static void actions() {
        says("5 ACTION");
        kinds("a", ACTION);
        kinds("...", ACTION);
        kinds("A", ACTION);
        kinds("INT. A\nb\nc", HEAD, ACTION);
        kinds("A".repeat(25) + "\nx\n(y)", ACTION);
    }

    private static void firstThatFits() {
        says("Of those that are not BLANK, the first that fits");
        kinds("INT. A:", HEAD);
        kinds("INT. A\nx", HEAD, ACTION);
        kinds("INT. A:\nx", HEAD, ACTION);
        kinds("(A)\n(b)", NAME, ASIDE);
        kinds("(A):", CHANGE);
        kinds("(A)", ACTION);
        kinds("BOB\nANN\nx", NAME, SPEECH);
    }

    // ------------------------------------------------------------ ELEMENTS

    private static void oneElement() {
        says("each such LINE, but SPEECH behind SPEECH, ACTION behind ACTION, with no LINE between");
        ScriptDesk x = desk("a\nb\nc\n\nd\n\n\ne");
        due("count(1)", x.count(1), 3);
        rowsAre(x, 0, "a b c");
        rowsAre(x, 1, "d");
        rowsAre(x, 2, "e");
        x = desk("A\na\nb\n(c)\n(d)\ne\nf\n\ng\nh");
        int[] kinds = {NAME, SPEECH, ASIDE, ASIDE, SPEECH, ACTION};
        String[] texts = {"A", "a b", "(c)", "(d)", "e f", "g h"};
        due("count(1)", x.count(1), 6);
        for (int e = 0; e < 6; e++) {
            due("kind of " + e, x.element(e, 0), kinds[e]);
            rowsAre(x, e, texts[e]);
        }
        x = desk("INT. A\nb\nc");
        rowsAre(x, 0, "INT. A");
        rowsAre(x, 1, "b c");
        x = desk("A:\n\nB:");
        due("changes are not one", x.count(1), 2);
    }

    private static void words() {
        says("Its WORDS are rows of bytes that are no blanks, in order");
        ScriptDesk x = desk("  a   bc d  \n  ef  ");
        due("words", x.element(0, 1), 4);
        rowsAre(x, 0, "a bc d ef");
        due("one word", desk("abc").element(0, 1), 1);
        due("one byte", desk(".").element(0, 1), 1);
        due("of a line each", desk("a\nb").element(0, 1), 2);
        due("600 words", desk("a ".repeat(600)).element(0, 1), 600);
    }

    private static void sixtyElements() {
        says("60 ELEMENTS at most");
        ScriptDesk x = fed(times(59, "x\n\n"));
        due("59", x.read(), 59);
        put(x, times(60, "x\n\n"));
        due("60", x.read(), 60);
        due("the last one", x.element(59, 0), ACTION);
        due("behind it", x.element(60, 0), BAD);
        says("FULL: above 60 (THE TAPE stays, and all else)");
        put(x, times(60, "y\n\n") + "z");
        String before = look(x);
        due("61", x.read(), FULL);
        same("all stays", look(x), before);
        due("the tape stays", x.count(0), 181);
        x.cut(180);
        due("60 again", x.read(), 60);
        row(x, 0, 0, "y");
        put(x, times(400, "x\n\n"));
        due("400", x.read(), FULL);
        says("FULL: above 60 ELEMENTS, not LINES");
        x.cut(0);
        put(x, "x\n".repeat(61));
        due("61 lines of one element", x.read(), 1);
        put(x, "A\n" + "(b)\n".repeat(59));
        due("a name and 59 asides", x.read(), 60);
        put(x, "A\n" + "(b)\n".repeat(60));
        due("a name and 60 asides", x.read(), FULL);
        x.cut(0);
        put(x, times(60, "x\n\n") + "\n \n\n");
        due("blank lines behind 60", x.read(), 60);
    }

    // ------------------------------------------------------------ ROWS

    /** The desk has one ELEMENT of the KIND with this text, numbered 1. */
    private static ScriptDesk with(int kind, String text) {
        ScriptDesk x = lockedDesk("x", 40);
        put(x, text);
        due("insert(0, " + kind + ")", x.insert(0, kind), 1);
        due("element(1, 0)", x.element(1, 0), kind);
        return x;
    }

    private static void rowsHaveRoom() {
        says("as many in a ROW as have room; WIDTH 40, 40, 24, 20, 28, 40 by its KIND");
        for (int kind = 0; kind < 6; kind++) {
            int width = WIDTHS[kind];
            String half = "a".repeat(width / 2 - 1);
            rowsAre(with(kind, half + " " + half), 1, half + " " + half);
            rowsAre(with(kind, half + " b" + half), 1, half + " b" + half);
            rowsAre(with(kind, half + " bc" + half), 1, half, "bc" + half);
            String ones = "a " + "b ".repeat(width / 2 - 2);
            rowsAre(with(kind, ones + "c"), 1, ones + "c");
            rowsAre(with(kind, ones + "cd"), 1, ones + "cd");
            rowsAre(with(kind, ones + "cde"), 1, ones.trim(), "cde");
            rowsAre(with(kind, ones + "cd e"), 1, ones + "cd", "e");
            rowsAre(with(kind, "a " + "b".repeat(width)), 1, "a", "b".repeat(width));
            rowsAre(with(kind, "b".repeat(width) + " a"), 1, "b".repeat(width), "a");
        }
        says("its WORDS, a blank between");
        rowsAre(with(ACTION, "a     b\n\n c"), 1, "a b c");
    }

    private static void longWords() {
        says("a WORD beyond the WIDTH is cut into such that fill it, and a rest");
        for (int kind = 0; kind < 6; kind++) {
            int width = WIDTHS[kind];
            String full = "w".repeat(width);
            rowsAre(with(kind, "w".repeat(width - 1)), 1, "w".repeat(width - 1));
            rowsAre(with(kind, full), 1, full);
            rowsAre(with(kind, full + "v"), 1, full, "v");
            rowsAre(with(kind, full + full), 1, full, full);
            rowsAre(with(kind, full + full + "v"), 1, full, full, "v");
            rowsAre(with(kind, "a " + full + "v"), 1, "a", full, "v");
            String rest = "v".repeat(width - 2);
            rowsAre(with(kind, full + rest + " b"), 1, full, rest + " b");
            rowsAre(with(kind, full + rest + "v b"), 1, full, rest + "v", "b");
            rowsAre(with(kind, full + "v " + full + "u"), 1, full, "v", full, "u");
            rowsAre(with(kind, full + full + " a"), 1, full, full, "a");
            due("one word", with(kind, full + full + "v").element(1, 1), 1);
        }
        due("1200 bytes", desk("a".repeat(1200)).element(0, 2), 30);
        due("1199 bytes", desk("a".repeat(1199)).element(0, 2), 30);
        due("1161 bytes", desk("a".repeat(1161)).element(0, 2), 30);
        due("1160 bytes", desk("a".repeat(1160)).element(0, 2), 29);
    }

    // ------------------------------------------------------------ the calls

    private static void readAgain() {
        says("THE TAPE, which is empty then, is READ; what was goes (not L)");
        ScriptDesk x = deskOf("INT. A\n\nBOB\nhi", 13);
        due("count(0)", x.count(0), 0);
        x.lock();
        x.strike(0);
        put(x, "abc");
        due("read() while locked", x.read(), 1);
        due("locked no more", x.count(4), 0);
        due("none is struck", x.count(2), 0);
        due("element 1 went", x.element(1, 0), BAD);
        due("scenes went", x.scenes(), 0);
        due("L stays", x.count(5), 13);
        due("pages", x.pages(), 1);
        due("read() of nothing", x.read(), 0);
        due("all went", x.count(1), 0);
        due("L stays", x.count(5), 13);
        due("no pages", x.pages(), 0);
        x = lockedDesk("abc", 10);
        due("read() of nothing while locked", x.read(), 0);
        due("locked no more", x.count(4), 0);
        due("lock()", x.lock(), NO);
    }

    private static void elementCalls() {
        says("element: 0 KIND, 1 how many WORDS, 2 ROWS, 3 whether it is STRUCK. BAD");
        ScriptDesk x = lockedDesk("INT. A\n\n" + "b".repeat(40) + " c d", 10);
        int[] want = {ACTION, 3, 2, 0};
        for (int what = 0; what < 4; what++) {
            due("element(1, " + what + ")", x.element(1, what), want[what]);
        }
        x.strike(1);
        due("struck", x.element(1, 3), 1);
        due("kind of one struck", x.element(1, 0), ACTION);
        due("words of one struck", x.element(1, 1), 3);
        due("rows of one struck", x.element(1, 2), 2);
        for (int what : new int[] {-1, 4}) {
            due("what " + what, x.element(0, what), BAD);
        }
        for (int e : new int[] {-1, 2}) {
            due("e " + e, x.element(e, 0), BAD);
        }
        for (int far : FAR) {
            due("e " + far, x.element(far, 0), BAD);
            due("what " + far, x.element(0, far), BAD);
        }
        says("element: numbered from 0 on");
        due("the first", x.element(0, 0), HEAD);
    }

    private static void rowByteCalls() {
        says("Byte i of a ROW of an ELEMENT. NONE: it has not so many. BAD");
        ScriptDesk x = desk("b".repeat(40) + " cd");
        due("first byte", x.rowByte(0, 0, 0), 'b');
        due("last byte", x.rowByte(0, 0, 39), 'b');
        due("behind it", x.rowByte(0, 0, 40), NONE);
        due("last row", x.rowByte(0, 1, 1), 'd');
        due("behind it", x.rowByte(0, 1, 2), NONE);
        due("i -1", x.rowByte(0, 0, -1), BAD);
        due("row 2", x.rowByte(0, 2, 0), BAD);
        due("row -1", x.rowByte(0, -1, 0), BAD);
        due("e 1", x.rowByte(1, 0, 0), BAD);
        due("e -1", x.rowByte(-1, 0, 0), BAD);
        for (int far : FAR) {
            due("i " + far, x.rowByte(0, 0, far), far < 0 ? BAD : NONE);
            due("row " + far, x.rowByte(0, far, 0), BAD);
            due("e " + far, x.rowByte(far, 0, 0), BAD);
        }
        due("no such row, and i beyond", x.rowByte(0, 2, 99), BAD);
        due("no such element, and i beyond", x.rowByte(1, 0, 99), BAD);
        due("blank between words", desk("a b").rowByte(0, 0, 1), 32);
    }
}
