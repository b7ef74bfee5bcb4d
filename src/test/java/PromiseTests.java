/**
 * Each promise of the document by hand: ordinary inputs, the edges it names, and wrong inputs.
 * What is due was worked out from the document, not from the class.
 */
public final class PromiseTests extends Bench {
    public static void main(String[] args) {
        newObject();
        feed();
        cut();
        readLines();
        readKinds();
        readJoins();
        readFull();
        length();
        element();
        rowsOfWords();
        rowByte();
        pages();
        breakPlaces();
        cost();
        page();
        lock();
        strike();
        insert();
        insertFull();
        manyRows();
        sheets();
        sheetsForced();
        sheet();
        where();
        merge();
        scenes();
        who();
        parts();
        count();
        digest();
        end();
    }

    // ------------------------------------------------------------ promises

    private static void newObject() {
        says("1 a new object");
        ScriptDesk x = new ScriptDesk();
        int[] want = {0, 0, 0, 0, 0, 20};
        for (int what = 0; what < want.length; what++) {
            due("count(" + what + ")", x.count(what), want[what]);
        }
        due("pages()", x.pages(), 0);
        due("cost()", x.cost(), -1);
        due("scenes()", x.scenes(), 0);
        due("element(0, 0)", x.element(0, 0), -2);
        due("NONE", ScriptDesk.NONE, -1);
        due("BAD", ScriptDesk.BAD, -2);
        due("NO", ScriptDesk.NO, -3);
        due("FULL", ScriptDesk.FULL, -4);
    }

    private static void feed() {
        says("2 feed");
        ScriptDesk x = new ScriptDesk();
        due("n 0", x.feed(65, 0), -2);
        due("n 9", x.feed(65, 9), -2);
        due("n -1", x.feed(65, -1), -2);
        due("n least", x.feed(65, Integer.MIN_VALUE), -2);
        due("9, 10, 11", x.feed(0x090A0B, 3), 1);
        due("31, 32, 126, 127", x.feed(0x1F207E7FL, 4), 3);
        due("128 and 255", x.feed(0x80FF, 2), 3);
        due("the lowest alone", x.feed(0x4142434445464748L, 1), 4);
        x = new ScriptDesk();
        x.feed(0x4142434445464748L, 3);
        due("read()", x.read(), 1);
        row(x, 0, 0, "FGH");
        x = new ScriptDesk();
        due("1200 bytes", put(x, "a".repeat(1200)), 1200);
        due("one more", x.feed(65, 1), -4);
        due("one more that is not taken", x.feed(0, 1), -4);
        due("BAD goes ahead of FULL", x.feed(65, 9), -2);
        x.cut(1193);
        due("8 at 1193", x.feed(0, 8), -4);
        due("7 at 1193", x.feed(0x41414141414141L, 7), 1200);
        x.cut(1192);
        due("8 at 1192, none taken", x.feed(0, 8), 1192);
        due("8 at 1192", x.feed(0x4141414141414141L, 8), 1200);
    }

    private static void cut() {
        says("3 cut");
        ScriptDesk x = new ScriptDesk();
        due("nothing of nothing", x.cut(0), 0);
        due("beyond", x.cut(1), -2);
        put(x, "ABCDEFGHIJ");
        due("-1", x.cut(-1), -2);
        due("11 of 10", x.cut(11), -2);
        due("all", x.cut(10), 0);
        due("3 of 10", x.cut(3), 7);
        due("count(0)", x.count(0), 3);
        x.read();
        row(x, 0, 0, "ABC");
        put(x, "AB");
        due("0 of 2", x.cut(0), 2);
        due("count(0)", x.count(0), 0);
    }

    private static void readLines() {
        says("4 read: lines");
        kinds("");
        kinds("\n");
        kinds("   \n \n");
        kinds("abc", 5);
        kinds("abc\n", 5);
        kinds("\n\nabc\n\n\n", 5);
        kinds("abc\n \ndef", 5, 5);
        ScriptDesk x = desk("abc");
        due("count(0) behind read()", x.count(0), 0);
        due("read() again", x.read(), 0);
        due("what was goes", x.count(1), 0);
        x = lockedDesk("abc", 12);
        put(x, "def\n\nghi");
        due("read() while locked", x.read(), 2);
        due("locked no more", x.count(4), 0);
        due("L stays", x.count(5), 12);
    }

    private static void readKinds() {
        says("4 read: kinds");
        kinds("INT. HOUSE", 0);
        kinds("EXT.", 0);
        kinds("  INT. HOUSE  \nx", 0, 5);
        kinds("INT HOUSE\n\n", 5);
        kinds("INT. House", 5);
        kinds("INT. HOUSE:", 0);
        kinds("x\nINT. HOUSE", 5);
        kinds("x\n  \nINT. HOUSE", 5, 0);
        kinds("EXT. A\nEXT. B", 0, 5);
        kinds("INTO A", 5);
        kinds("ANT. A", 5);
        kinds("INT. A a", 5);
        kinds("INT. A z", 5);
        kinds("INT. A{`", 0);
        kinds("CUT TO:", 1);
        kinds("CUT TO:\n   \nx", 1, 5);
        kinds("CUT TO: ", 1);
        kinds("CUT TO:\nx", 2, 4);
        kinds("x\nCUT TO:", 5);
        kinds("Cut to:", 5);
        kinds("12:", 5);
        kinds("BOB\nhi", 2, 4);
        kinds("BOB", 5);
        kinds("BOB\n", 5);
        kinds("BOB\n  ", 5);
        kinds("  ABCDEFGHIJKLMNOPQRSTUVWX  \nhi", 2, 4);
        kinds("ABCDEFGHIJKLMNOPQRSTUVWXY\nhi", 5);
        kinds("12\nhi", 5);
        kinds("A\nhi", 2, 4);
        kinds("Z\nhi", 2, 4);
        kinds("@[\nhi", 5);
        kinds("B2\nhi", 2, 4);
        kinds("BOb\nhi", 5);
        kinds("BOB\n(low)\nhi\n(high)\nho", 2, 3, 4, 3, 4);
        kinds("BOB\n(low)\n( no )", 2, 3, 3);
        kinds("BOB\n ()", 2, 3);
        kinds("BOB\n(", 2, 4);
        kinds("BOB\n(low) x", 2, 4);
        kinds("(low)", 5);
        kinds("BOB\nhi\n\n(low)", 2, 4, 5);
        kinds("INT. A\n(low)", 0, 5);
        kinds("(LOW)\n(low)", 2, 3);
        kinds("BOB\nSTOP:\n\n", 2, 4);
        kinds("BOB\nINT. A", 2, 4);
        kinds("INT. A\nBOB\nhi", 0, 5);
        kinds("CUT TO:\n\nBOB\nhi\n\nhe goes", 1, 2, 4, 5);
    }

    private static void readJoins() {
        says("4 read: elements");
        ScriptDesk x = desk("he  goes\n  out \nand in");
        due("three lines, one element", x.count(1), 1);
        due("its words", x.element(0, 1), 5);
        row(x, 0, 0, "he goes out and in");
        x = desk("BOB\na\nb\n(c)\nd\ne\n\nf\n\ng");
        due("elements", x.count(1), 6);
        row(x, 1, 0, "a b");
        row(x, 3, 0, "d e");
        row(x, 4, 0, "f");
        kinds("BOB\n(a)\n(b)", 2, 3, 3);
    }

    private static void readFull() {
        says("4 read: FULL");
        ScriptDesk x = lockedDesk("abc", 11);
        put(x, times(61, "x\n\n"));
        long before = x.digest();
        due("61 elements", x.read(), -4);
        due("the tape stays", x.count(0), 183);
        due("all else stays", x.digest(), before);
        due("locked stays", x.count(4), 1);
        x.cut(180);
        due("60 elements", x.read(), 60);
        due("the tape is empty", x.count(0), 0);
        put(x, "x" + "\n".repeat(80) + "x");
        due("blank lines are no elements", x.read(), 2);
        put(x, "BOB\n" + times(59, "(a)\n"));
        due("60 without a blank line", x.read(), 60);
        put(x, "BOB\n" + times(60, "(a)\n"));
        due("61 without a blank line", x.read(), -4);
        x.cut(0);
        put(x, times(200, "a b\n"));
        due("200 lines, one element", x.read(), 1);
        put(x, "\n".repeat(1200));
        due("1200 blank lines", x.read(), 0);
        put(x, "a\n".repeat(600));
        due("600 lines", x.read(), 1);
        due("600 words", x.element(0, 1), 600);
    }

    private static void length() {
        says("5 length");
        ScriptDesk x = desk("abc");
        due("9", x.length(9), -2);
        due("41", x.length(41), -2);
        due("-1", x.length(-1), -2);
        due("10", x.length(10), 20);
        due("40", x.length(40), 10);
        due("same again", x.length(40), 40);
        x.lock();
        due("locked", x.length(20), -3);
        due("BAD goes ahead of NO", x.length(9), -2);
        due("L", x.count(5), 40);
        x.merge();
        due("merged", x.length(20), 40);
    }

    private static void element() {
        says("6 element");
        ScriptDesk x = desk("INT. A B\n\nBOB\nhi there you");
        due("-1", x.element(-1, 0), -2);
        due("3", x.element(3, 0), -2);
        due("what -1", x.element(0, -1), -2);
        due("what 4", x.element(0, 4), -2);
        due("words of 0", x.element(0, 1), 3);
        due("words of 2", x.element(2, 1), 3);
        due("kind of 2", x.element(2, 0), 4);
        due("rows of 2", x.element(2, 2), 1);
        due("struck", x.element(2, 3), 0);
        x.lock();
        x.strike(2);
        due("struck", x.element(2, 3), 1);
        due("its rows stay told", x.element(2, 2), 1);
        due("the other one", x.element(1, 3), 0);
    }

    private static void rowsOfWords() {
        says("6 element: rows");
        int[] widths = {40, 40, 24, 20, 28, 40};
        for (int kind = 0; kind < 6; kind++) {
            ScriptDesk x = lockedDesk("abc", 40);
            int width = widths[kind];
            put(x, "x".repeat(width - 2) + " y zz " + "w".repeat(width) + " " + "v".repeat(width + 1)
                    + " u " + "t".repeat(2 * width) + " s");
            due("insert", x.insert(0, kind), 1);
            due("words", x.element(1, 1), 8);
            row(x, 1, 0, "x".repeat(width - 2) + " y");
            row(x, 1, 1, "zz");
            row(x, 1, 2, "w".repeat(width));
            row(x, 1, 3, "v".repeat(width));
            row(x, 1, 4, "v u");
            row(x, 1, 5, "t".repeat(width));
            row(x, 1, 6, "t".repeat(width));
            row(x, 1, 7, "s");
            due("rows", x.element(1, 2), 8);
        }
        ScriptDesk x = desk("a".repeat(39) + " b");
        due("one beyond the width", x.element(0, 2), 2);
        x = desk("a".repeat(1200));
        due("a word of 1200", x.element(0, 2), 30);
        due("is one word", x.element(0, 1), 1);
        x = desk(("a" + " " + "b".repeat(39) + " ").repeat(28));
        due("rows filled as badly as can be", x.element(0, 2), 56);
    }

    private static void rowByte() {
        says("7 rowByte");
        ScriptDesk x = desk("ab  cd");
        row(x, 0, 0, "ab cd");
        due("i far beyond", x.rowByte(0, 0, Integer.MAX_VALUE), -1);
        due("i -1", x.rowByte(0, 0, -1), -2);
        due("row 1", x.rowByte(0, 1, 0), -2);
        due("row -1", x.rowByte(0, -1, 0), -2);
        due("e 1", x.rowByte(1, 0, 0), -2);
        due("e -1", x.rowByte(-1, 0, 0), -2);
        due("BAD goes ahead of NONE", x.rowByte(0, 1, 99), -2);
        x.lock();
        x.strike(0);
        due("struck", x.rowByte(0, 0, 1), 'b');
    }

    private static void pages() {
        says("8 pages");
        due("no elements", new ScriptDesk().pages(), 0);
        due("a head alone", desk("INT. A").pages(), 1);
        due("10 rows on 10", deskOf(action(10), 10).pages(), 1);
        due("11 rows on 10", deskOf(action(11), 10).pages(), 2);
        due("a head of 11 rows on 10", deskOf("INT. " + "X".repeat(440), 10).pages(), 0);
        due("a head of 10 rows on 10", deskOf("INT." + "X".repeat(396), 10).pages(), 1);
        due("6 heads on 10", deskOf(times(6, "INT. A\n\n"), 10).pages(), 0);
        due("6 heads on 11", deskOf(times(6, "INT. A\n\n"), 11).pages(), 1);
        due("5 heads, an action, on 10", deskOf(times(5, "INT. A\n\n") + "x", 10).pages(), 0);
        ScriptDesk x = deskOf(times(6, "INT. A\n\n"), 10);
        due("none: cost", x.cost(), -1);
        due("none: lock", x.lock(), -3);
        due("none: page", x.page(0, 0), -2);
        due("after length(12)", x.length(12) + x.pages(), 11);
        x = lockedDesk(action(10) + action(10), 10);
        due("groups", x.pages(), 2);
        x.strike(0);
        x.strike(1);
        due("groups without pieces", x.pages(), 2);
        x.merge();
        due("merged", x.pages(), 0);
    }

    /** Where pages may end, each with L 10 and so short that only one way, or the best, is left. */
    private static void breakPlaces() {
        says("8 pages: places");
        // An action of 11: breaks at 2 .. 9 are allowed, at 9 it costs 1 + 10 (two rows behind it).
        ScriptDesk x = deskOf(action(11), 10);
        pageIs(x, 0, 9, 0, 0, 0, 9, 0, 0);
        pageIs(x, 1, 2, 0, 9, 0, 11, 0, 0);
        due("cost", x.cost(), 11);
        // 9 rows, an empty one, an action of 3: no break within it, so page 0 ends behind the first.
        x = deskOf(action(8) + action(3), 10);
        pageIs(x, 0, 8, 0, 0, 0, 8, 0, 0);
        due("cost", x.cost(), 4);
        // A name of one row and a speech of 11: 1 + 8 + (MORE), then the name, 3.
        x = deskOf(talk(11), 10);
        pageIs(x, 0, 10, 0, 0, 1, 8, 0, 1);
        pageIs(x, 1, 4, 1, 8, 1, 11, 1, 0);
        due("cost", x.cost(), 30);
        // 16 rows: 8 and (MORE); (CONT) and 8.
        x = deskOf(talk(16), 10);
        pageIs(x, 1, 9, 1, 8, 1, 16, 1, 0);
        due("cost", x.cost(), 30);
        // 18 rows: a page in the middle begins and ends within the speech.
        x = deskOf(talk(18), 10);
        due("pages", x.pages(), 3);
        pageIs(x, 0, 10, 0, 0, 1, 8, 0, 1);
        pageIs(x, 1, 10, 1, 8, 1, 16, 1, 1);
        pageIs(x, 2, 3, 1, 16, 1, 18, 1, 0);
        due("cost", x.cost(), 60);
        // No page ends behind a name, an aside or a head: 6 + empty + name + aside are at 9 of 10.
        x = deskOf(action(6) + "BOB\n(low)\n" + rows(3, 28), 10);
        pageIs(x, 0, 6, 0, 0, 0, 6);
        pageIs(x, 1, 5, 1, 0, 3, 3);
        due("cost", x.cost(), 16);
        x = deskOf(action(7) + "INT. A\n\n" + action(2), 10);
        pageIs(x, 0, 7, 0, 0, 0, 7);
        due("cost", x.cost(), 9);
        // A page may end behind a change.
        x = deskOf(action(7) + "CUT TO:\n\n" + action(2), 10);
        pageIs(x, 0, 9, 0, 0, 1, 1);
        pageIs(x, 1, 2, 2, 0, 2, 2);
        due("cost", x.cost(), 1);
        // Behind a speech, though an aside comes: no (MORE), no (CONT), and no empty row.
        x = deskOf(action(3) + "BOB\n" + rows(5, 28) + "\n(low)\nhi", 10);
        pageIs(x, 0, 10, 0, 0, 2, 5, 0, 0);
        pageIs(x, 1, 2, 3, 0, 4, 1, 0, 0);
        due("cost", x.cost(), 0);
    }

    private static void cost() {
        says("9 cost");
        due("no elements", new ScriptDesk().cost(), -1);
        due("one page costs nothing", desk("abc").cost(), 0);
        // Four actions of 4 on pages of 10: 4 + 1 + 4 = 9 rows, then 9: (10 - 9)^2.
        ScriptDesk x = deskOf(times(4, action(4)), 10);
        due("two pages", x.pages(), 2);
        due("cost", x.cost(), 1);
        // Within the second action, two full pages for 10; behind the first one it would be 9 + 10.
        x = deskOf(action(7) + action(12), 10);
        pageIs(x, 0, 10, 0, 0, 1, 2);
        pageIs(x, 1, 10, 1, 2, 1, 12);
        due("cost", x.cost(), 10);
        // Of like cost, most rows on page 0: 5 actions of one row with 4 empty ones are 9 rows.
        x = deskOf(times(13, "x\n\n"), 10);
        due("pages", x.pages(), 3);
        due("cost", x.cost(), 2);
        due("most on page 0", x.page(0, 3), 4);
        due("most on page 1", x.page(1, 3), 9);
        x.lock();
        due("locked", x.cost(), -1);
        x.merge();
        due("merged", x.cost(), 2);
        // A tie: changes of 6, 1, 6, 10 rows. 8 and 6, or 6 and 8: both cost 20.
        x = deskOf(change(6) + change(1) + change(6) + change(10), 10);
        due("kind", x.element(3, 0), 1);
        due("a tie", x.cost(), 20);
        pageIs(x, 0, 8, 0, 0, 1, 1);
        pageIs(x, 1, 6, 2, 0, 2, 6);
        pageIs(x, 2, 10, 3, 0, 3, 10);
        x = deskOf(action(10) + action(10) + action(1), 10);
        due("full pages", x.cost(), 0);
        due("three of them", x.pages(), 3);
    }

    private static void page() {
        says("10 page");
        ScriptDesk x = deskOf(action(10) + action(4), 10);
        pageIs(x, 0, 10, 0, 0, 0, 10, 0, 0);
        pageIs(x, 1, 4, 1, 0, 1, 4, 0, 0);
        due("what -1", x.page(0, -1), -2);
        due("what 7", x.page(0, 7), -2);
        due("page 2", x.page(2, 0), -2);
        due("page -1", x.page(-1, 0), -2);
        x.lock();
        due("locked", x.page(0, 0), -3);
        due("locked, no such page", x.page(9, 0), -3);
        due("locked, what 7", x.page(0, 7), -2);
    }

    private static void lock() {
        says("11 lock");
        due("nothing", new ScriptDesk().lock(), -3);
        ScriptDesk x = deskOf(talk(18), 10);
        due("three pages", x.lock(), 3);
        due("again", x.lock(), -3);
        due("count(4)", x.count(4), 1);
        for (int g = 1; g <= 3; g++) {
            due("each page is one sheet", x.sheets(g), 1);
        }
        sheetIs(x, 1, 0, 10, 2, 0, 1);
        sheetIs(x, 2, 0, 10, 1, 1, 1);
        sheetIs(x, 3, 0, 3, 1, 1, 1);
    }

    private static void strike() {
        says("12 strike");
        ScriptDesk x = deskOf(talk(18), 10);
        due("not locked", x.strike(0), -3);
        due("BAD goes ahead of NO", x.strike(2), -2);
        x.lock();
        due("-1", x.strike(-1), -2);
        due("2", x.strike(2), -2);
        due("1", x.strike(1), 1);
        due("again", x.strike(1), -3);
        due("count(2)", x.count(2), 1);
        due("count(3)", x.count(3), 1);
        due("count(1)", x.count(1), 2);
        sheetIs(x, 1, 0, 1, 1, 0, 0);
        sheetIs(x, 2, 0, 0, 0, -1, -1);
        sheetIs(x, 3, 0, 0, 0, -1, -1);
        due("sheets of what is empty", x.sheets(2), 1);
        due("pages() stays", x.pages(), 3);
    }

    private static void insert() {
        says("13 insert");
        ScriptDesk x = deskOf("INT. A\n\nabc", 10);
        put(x, " d\n e");
        due("not locked", x.insert(0, 5), -3);
        x.lock();
        due("e 2", x.insert(2, 5), -2);
        due("e -1", x.insert(-1, 5), -2);
        due("kind 6", x.insert(0, 6), -2);
        due("kind -1", x.insert(0, -1), -2);
        due("its number", x.insert(0, 4), 2);
        due("the tape is empty", x.count(0), 0);
        due("kind", x.element(2, 0), 4);
        due("words: 10 is a blank", x.element(2, 1), 2);
        row(x, 2, 0, "d e");
        due("no tape", x.insert(0, 5), -3);
        put(x, " \n ");
        due("no word", x.insert(0, 5), -3);
        due("the tape stays", x.count(0), 3);
        x.strike(2);
        put(x, "f");
        due("behind one that is struck", x.insert(2, 5), -3);
        due("behind one that is not", x.insert(1, 2), 3);
        due("and once more: ahead of it", put(x, "g") + x.insert(1, 2), 5);
        due("merge()", x.merge(), 4);
        row(x, 2, 0, "g");
        row(x, 3, 0, "f");
        // Behind the last piece of a speech that stands in three groups.
        x = lockedDesk(talk(18) + action(2), 10);
        put(x, "hi");
        due("behind the speech", x.insert(1, 4), 3);
        due("where", x.where(3), 96);
        sheetIs(x, 2, 0, 10, 1, 1, 1);
        sheetIs(x, 3, 0, 7, 3, 1, 2);
    }

    private static void insertFull() {
        says("13 insert: FULL");
        ScriptDesk x = lockedDesk(times(59, "x\n\n"), 10);
        put(x, "y");
        due("the 60th", x.insert(0, 5), 59);
        put(x, "y");
        due("the 61st", x.insert(0, 5), -4);
        due("the tape stays", x.count(0), 1);
        x.strike(3);
        due("struck ones count too", x.insert(0, 5), -4);
        due("NO goes ahead of FULL", x.insert(3, 5), -3);
        x.merge();
        x.lock();
        due("merged", x.insert(0, 5), 59);
        // Asides have no empty row and allow no end: 1 + 104 + 104 + 61 rows are 27 sheets of 10.
        x = lockedDesk("INT. A", 10);
        for (int i = 0; i < 2; i++) {
            put(x, badAsides(52));
            due("insert " + i, x.insert(0, 3), i + 1);
        }
        due("104 rows", x.element(1, 2), 104);
        due("21 sheets", x.sheets(1), 21);
        put(x, badAsides(30) + "a");
        due("61 rows more", x.insert(0, 3), 3);
        due("27 sheets", x.sheets(1), 27);
        sheetIs(x, 1, 26, 10, 1, 1, 1);
        put(x, "y");
        long before = x.digest();
        due("above 27", x.insert(0, 3), -4);
        due("nothing has changed", x.digest(), before);
        due("sheets", x.sheets(1), 27);
        x.strike(0);
        due("there is room again", x.insert(1, 3), 4);
        due("27 sheets", x.sheets(1), 27);
        due("the last one's sheet", x.where(4), 58);
        x.merge();
        due("no place allows an end", x.pages(), 0);
    }

    /** As many rows as the class has room for at first, one less and one more. */
    private static void manyRows() {
        says("8 pages: many rows");
        for (int more = 22; more <= 24; more++) {
            ScriptDesk x = lockedDesk("INT. A", 10);
            put(x, badAsides(52));
            x.insert(0, 3);
            put(x, badAsides(more / 2) + (more % 2 == 1 ? "a" : ""));
            x.insert(0, 3);
            due("merge()", x.merge(), 3);
            due("rows", x.count(3), 105 + more);
            due("pages()", x.pages(), 0);
        }
    }

    /** Words that fill an aside's rows as badly as can be: twice so many rows. */
    private static String badAsides(int pairs) {
        return ("a " + "b".repeat(20) + " ").repeat(pairs);
    }

    private static void sheets() {
        says("14 sheets");
        ScriptDesk x = deskOf(action(9) + action(9), 10);
        due("not locked", x.sheets(1), -3);
        due("not locked, no such group", x.sheets(9), -3);
        x.lock();
        due("group 0", x.sheets(0), -2);
        due("group 3", x.sheets(3), -2);
        due("group -1", x.sheets(-1), -2);
        due("one", x.sheets(1), 1);
        put(x, rows(3, 40));
        x.insert(0, 5);
        due("two", x.sheets(1), 2);
        due("the other group", x.sheets(2), 1);
        sheetIs(x, 1, 0, 9, 1, 0, 0);
        sheetIs(x, 1, 1, 3, 1, 2, 2);
        // As many rows as may be, whatever it would cost: 5 + 1 + 4, not the break of least cost.
        x = lockedDesk(action(5), 10);
        put(x, rows(8, 40));
        x.insert(0, 5);
        sheetIs(x, 1, 0, 10, 2, 0, 1);
        sheetIs(x, 1, 1, 4, 1, 1, 1);
        // Within a piece two rows at least on either side, counted from the piece's own ends.
        x = lockedDesk(action(5), 10);
        put(x, rows(5, 40));
        x.insert(0, 5);
        sheetIs(x, 1, 0, 9, 2, 0, 1);
        sheetIs(x, 1, 1, 2, 1, 1, 1);
        x = lockedDesk(action(7), 10);
        put(x, rows(3, 40));
        x.insert(0, 5);
        sheetIs(x, 1, 0, 7, 1, 0, 0);
        sheetIs(x, 1, 1, 3, 1, 1, 1);
        // (MORE) and (CONT) on sheets, of an inserted speech without any name.
        x = lockedDesk(action(5), 10);
        put(x, rows(20, 28));
        x.insert(0, 4);
        sheetIs(x, 1, 0, 10, 2, 0, 1);
        sheetIs(x, 1, 1, 10, 1, 1, 1);
        sheetIs(x, 1, 2, 9, 1, 1, 1);
        due("three", x.sheets(1), 3);
    }

    private static void sheetsForced() {
        says("14 sheets: no place allows it");
        // A head of 12 rows: 10 and 2, and then an empty row.
        ScriptDesk x = lockedDesk("INT. A\n\nabc", 10);
        put(x, rows(12, 40));
        x.insert(1, 0);
        sheetIs(x, 1, 0, 3, 2, 0, 1);
        sheetIs(x, 1, 1, 10, 1, 2, 2);
        sheetIs(x, 1, 2, 2, 1, 2, 2);
        // Heads alone, each with an empty row ahead: 5 of them are 9 rows; the empty one stays off.
        x = lockedDesk("INT. A", 10);
        for (int i = 0; i < 6; i++) {
            put(x, "INT. B");
            x.insert(0, 0);
        }
        due("sheets", x.sheets(1), 2);
        sheetIs(x, 1, 0, 9, 5, 0, 3);
        sheetIs(x, 1, 1, 3, 2, 2, 1);
        // Nine rows of a head and a speech of 3: forced within it, with (MORE), is not allowed room
        // beyond 10, so the sheet ends behind the head; a speech of 1 fits.
        x = lockedDesk("INT. A\n\nabc", 10);
        x.strike(1);
        put(x, rows(3, 28));
        x.insert(0, 4);
        put(x, rows(7, 24));
        x.insert(0, 2);
        sheetIs(x, 1, 0, 9, 2, 0, 3);
        sheetIs(x, 1, 1, 3, 1, 2, 2);
        // A row less of the name: one row of the speech and (MORE); then the name's row and two.
        x = lockedDesk("INT. A\n\nabc", 10);
        x.strike(1);
        put(x, rows(3, 28));
        x.insert(0, 4);
        put(x, rows(6, 24));
        x.insert(0, 2);
        sheetIs(x, 1, 0, 10, 3, 0, 2);
        sheetIs(x, 1, 1, 3, 1, 2, 2);
    }

    private static void sheet() {
        says("15 sheet");
        ScriptDesk x = deskOf("INT. A\n\n" + talk(2) + action(3), 10);
        due("not locked", x.sheet(1, 0, 0), -3);
        due("not locked, what 4", x.sheet(1, 0, 4), -2);
        due("not locked, no such group", x.sheet(7, 0, 0), -3);
        x.lock();
        sheetIs(x, 1, 0, 9, 4, 0, 3);
        due("what -1", x.sheet(1, 0, -1), -2);
        due("what 4", x.sheet(1, 0, 4), -2);
        due("sheet 1", x.sheet(1, 1, 0), -2);
        due("sheet -1", x.sheet(1, -1, 0), -2);
        due("group 0", x.sheet(0, 0, 0), -2);
        due("group 2", x.sheet(2, 0, 0), -2);
        for (int e = 0; e < 4; e++) {
            x.strike(e);
        }
        sheetIs(x, 1, 0, 0, 0, -1, -1);
        due("sheet 1 of an empty group", x.sheet(1, 1, 0), -2);
        // A group that ends within a speech has (MORE) at its end, also on a later sheet.
        x = lockedDesk(talk(11), 10);
        put(x, "hm");
        x.insert(0, 3);
        due("two sheets", x.sheets(1), 2);
        sheetIs(x, 1, 0, 9, 3, 0, 1);
        sheetIs(x, 1, 1, 4, 1, 1, 1);
        sheetIs(x, 2, 0, 4, 1, 1, 1);
        x.strike(0);
        x.strike(2);
        sheetIs(x, 1, 0, 9, 1, 1, 1);
    }

    private static void where() {
        says("16 where");
        ScriptDesk x = deskOf(talk(18) + action(2), 10);
        due("not locked", x.where(0), -3);
        due("BAD goes ahead of NO", x.where(3), -2);
        x.lock();
        due("-1", x.where(-1), -2);
        due("3", x.where(3), -2);
        due("0", x.where(0), 32);
        due("where it begins", x.where(1), 32);
        due("2", x.where(2), 96);
        put(x, rows(11, 40));
        x.insert(2, 5);
        due("begins on sheet 0", x.where(3), 96);
        due("goes on on sheet 1", x.sheet(3, 1, 2), 3);
        put(x, "z");
        x.insert(3, 5);
        due("on sheet A", x.where(4), 97);
        x.strike(1);
        due("struck", x.where(1), -1);
        due("the others move up", x.where(2), 96);
    }

    private static void merge() {
        says("17 merge");
        ScriptDesk x = deskOf("INT. A\n\nabc\n\ndef", 10);
        due("not locked", x.merge(), -3);
        x.lock();
        put(x, "ghi");
        x.insert(0, 5);
        x.strike(1);
        put(x, "tape");
        due("how many", x.merge(), 3);
        due("locked no more", x.count(4), 0);
        due("the tape stays", x.count(0), 4);
        due("none is struck", x.count(2), 0);
        row(x, 1, 0, "ghi");
        row(x, 2, 0, "def");
        due("actions side by side stay two", x.element(1, 1), 1);
        due("again", x.merge(), -3);
        x.lock();
        for (int e = 0; e < 3; e++) {
            x.strike(e);
        }
        due("all struck", x.merge(), 0);
        due("no pages", x.pages(), 0);
        // A speech that stood in three groups is one again.
        x = lockedDesk(talk(18), 10);
        due("two", x.merge(), 2);
        due("its rows", x.element(1, 2), 18);
        due("pages", x.pages(), 3);
    }

    private static final String TWO_SCENES =
            "abc\n\nBOB\nhi\n\nINT. A\n\nx y\n\nBOB\n(low)\nhi\n\nANN\nho\n\n  BOB \nhm\n\n"
            + "EXT. B\n\nANN\nha\n\nCUT TO:\n\n";

    private static void scenes() {
        says("18 scenes, 19 scene");
        due("none", new ScriptDesk().scenes(), 0);
        due("no head", desk("abc").scenes(), 0);
        ScriptDesk x = desk(TWO_SCENES);
        due("scenes()", x.scenes(), 2);
        // 3 HEAD; 4 ACTION; 5 NAME, 6 ASIDE, 7 SPEECH; 8 NAME, 9 SPEECH; 10 NAME, 11 SPEECH.
        int[] first = {3, 2, 14, 5, 9};
        // 12 HEAD; 13 NAME, 14 SPEECH; 15 CHANGE. 8 * 14 / 20 = 5; 8 * 21 / 20 = 8.
        int[] second = {12, 1, 7, 3, 4};
        for (int what = 0; what < 5; what++) {
            due("scene(0, " + what + ")", x.scene(0, what), first[what]);
            due("scene(1, " + what + ")", x.scene(1, what), second[what]);
        }
        due("scene(2, 0)", x.scene(2, 0), -2);
        due("scene(-1, 0)", x.scene(-1, 0), -2);
        due("what 5", x.scene(0, 5), -2);
        due("what -1", x.scene(0, -1), -2);
        x.length(10);
        due("eighths on 10", x.scene(0, 3), 11);
        due("eighths on 10", x.scene(1, 3), 5);
        x.lock();
        due("locked", x.scene(1, 2), 7);
        x.strike(12);
        due("a head struck: one scene", x.scenes(), 1);
        due("its span", x.scene(0, 2), 19);
        due("its elements", x.scene(0, 4), 12);
        put(x, "EXT. C");
        due("a head put in", x.insert(0, 0), 16);
        due("scenes", x.scenes(), 2);
        due("scene 0 is the new one", x.scene(0, 0), 16);
        due("who was ahead is in it", x.scene(0, 1), 1);
        due("span of the other", x.scene(1, 2), 19);
        x.merge();
        due("its number now", x.scene(0, 0), 1);
        // An element in two groups counts once.
        x = lockedDesk("INT. A\n\n" + talk(18), 10);
        due("elements", x.scene(0, 4), 3);
        due("span", x.scene(0, 2), 22);
    }

    private static void who() {
        says("20 who");
        ScriptDesk x = desk(TWO_SCENES);
        due("who(0, 0)", x.who(0, 0), 5);
        due("who(0, 1)", x.who(0, 1), 8);
        due("who(0, 2)", x.who(0, 2), -1);
        due("who(0, most)", x.who(0, Integer.MAX_VALUE), -1);
        due("who(1, 0)", x.who(1, 0), 13);
        due("who(0, -1)", x.who(0, -1), -2);
        due("who(2, 0)", x.who(2, 0), -2);
        due("who(-1, 0)", x.who(-1, 0), -2);
        x.lock();
        x.strike(5);
        due("the first BOB struck", x.who(0, 0), 8);
        due("the next one tells him", x.who(0, 1), 10);
        put(x, "ANN");
        x.insert(4, 2);
        due("an ANN ahead", x.who(0, 0), 16);
        x = desk("INT. A\n\nA  B\nx\n\nA B\nx\n\nAB\nx");
        due("words, not blanks", x.scene(0, 1), 2);
        due("AB is another", x.who(0, 1), 5);
        x = desk("INT. A\n\nBOB\nx\n\nROB\nx\n\nINT. B\n\nANN\nx\n\nBO\nx");
        due("ROB is not BOB", x.who(0, 1), 3);
        due("who is in the next scene is not in this", x.who(0, 2), -1);
        due("scene(0, 1)", x.scene(0, 1), 2);
        due("BO is not BOB", x.who(1, 1), 8);
    }

    private static void parts() {
        says("21 parts");
        ScriptDesk x = desk(TWO_SCENES);
        due("BOB ahead of all scenes", x.parts(1), 1);
        due("BOB", x.parts(10), 1);
        due("ANN", x.parts(8), 2);
        due("no name", x.parts(0), -3);
        due("-1", x.parts(-1), -2);
        due("16", x.parts(16), -2);
        due("in no scene", desk("BOB\nhi").parts(0), 0);
        x.lock();
        x.strike(8);
        due("struck", x.parts(8), -3);
        due("the other ANN", x.parts(13), 1);
    }

    private static void count() {
        says("22 count");
        ScriptDesk x = deskOf("INT. A\n\n" + action(3), 10);
        put(x, "abc");
        x.lock();
        x.strike(0);
        int[] want = {3, 2, 1, 3, 1, 10};
        for (int what = 0; what < want.length; what++) {
            due("count(" + what + ")", x.count(what), want[what]);
        }
        due("count(-1)", x.count(-1), -2);
        due("count(6)", x.count(6), -2);
    }

    private static long digestOf(long... values) {
        long h = 101;
        for (long v : values) {
            h = 31 * h + v;
        }
        return h;
    }

    private static void digest() {
        says("23 digest");
        ScriptDesk x = new ScriptDesk();
        due("new", x.digest(), digestOf(0, 0, 0, 0, 0, 20, 0, -1));
        put(x, "ab c\n\nd");
        x.read();
        x.length(10);
        due("read", x.digest(),
                digestOf(0, 2, 0, 2, 0, 10, 5, 2, 1, 0, 97, 98, 32, 99, 5, 1, 1, 0, 100, 1, 0));
        x.lock();
        due("locked", x.digest(),
                digestOf(0, 2, 0, 2, 1, 10, 5, 2, 1, 0, 97, 98, 32, 99, 5, 1, 1, 0, 100, 1, 1, 3, 2));
        x.strike(0);
        due("struck", x.digest(),
                digestOf(0, 2, 1, 1, 1, 10, 5, 2, 1, 1, 97, 98, 32, 99, 5, 1, 1, 0, 100, 1, 1, 1, 1));
        x.strike(1);
        due("all struck", x.digest(),
                digestOf(0, 2, 2, 0, 1, 10, 5, 2, 1, 1, 97, 98, 32, 99, 5, 1, 1, 1, 100, 1, 1, 0, 0));
    }
}
