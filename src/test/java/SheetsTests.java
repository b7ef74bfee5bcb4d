/** Section 3 of the document, sentence by sentence: LOCKED, GROUPS, PIECES and SHEETS. */
public final class SheetsTests extends Bench {
    public static void main(String[] args) {
        pagesAreGroups();
        lockCalls();
        struck();
        strikeCalls();
        inserted();
        insertedWithAFullTape();
        insertedBehindLastPiece();
        noOtherIsBroken();
        insertCalls();
        exactRoom();
        asManyRowsAsMayBe();
        sheetMayEndBehind();
        twoRowsInAPiece();
        moreOnSheets();
        groupBeginsWithinSpeech();
        groupEndsWithinSpeech();
        piecesOfActions();
        lastSheetEndsBehindAll();
        forcedRows();
        forcedMore();
        forcedEmptyRow();
        sheetsOfOtherLengths();
        twentySevenSheets();
        sixtyElements();
        strikeAboveTwentySeven();
        groupOfOneRow();
        groupWithoutPieces();
        sheetCalls();
        whereCalls();
        merged();
        end();
    }

    // ------------------------------------------------------------ LOCKED

    private static void pagesAreGroups() {
        says("LOCKED, each PAGE k is a GROUP, numbered k + 1: a row of PIECES");
        ScriptDesk x = made(10, el(HEAD, 2), el(ACTION, 16), el(SPEECH, 15), el(CHANGE, 10));
        int pages = x.pages();
        int[] rows = new int[pages];
        int[] first = new int[pages];
        int[] last = new int[pages];
        for (int k = 0; k < pages; k++) {
            rows[k] = x.page(k, 0);
            first[k] = x.page(k, 1);
            last[k] = x.page(k, 3);
        }
        due("lock()", x.lock(), pages);
        due("pages()", x.pages(), pages);
        for (int k = 0; k < pages; k++) {
            due("one sheet", x.sheets(k + 1), 1);
            sheetIs(x, k + 1, 0, rows[k], last[k] - first[k] + 1, first[k], last[k]);
        }
        due("group 0", x.sheets(0), BAD);
        due("group behind all", x.sheets(pages + 1), BAD);
    }

    private static void lockCalls() {
        says("lock: how many GROUPS. NO: it is so, or there are no PAGES");
        ScriptDesk x = made(10, el(CHANGE, 10), el(CHANGE, 1));
        due("two", x.lock(), 2);
        due("again", x.lock(), NO);
        x.merge();
        due("merged", x.lock(), 2);
        x.strike(0);
        due("struck, again", x.lock(), NO);
        due("no elements", new ScriptDesk().lock(), NO);
        due("no place allows it", made(10, el(HEAD, 11)).lock(), NO);
        due("one row", made(10, el(HEAD, 1)).lock(), 1);
    }

    private static void struck() {
        says("STRUCK, an ELEMENT's PIECES are in no GROUP");
        // Speech of 26: 9, 8, 9 rows in groups 1, 2, 3; the change of 10 in group 4.
        ScriptDesk x = locked(10, el(SPEECH, 26), el(CHANGE, 10));
        due("groups", x.pages(), 4);
        due("strike(0)", x.strike(0), 1);
        for (int g = 1; g <= 3; g++) {
            sheetIs(x, g, 0, 0, 0, NONE, NONE);
        }
        sheetIs(x, 4, 0, 10, 1, 1, 1);
        due("groups stay", x.pages(), 4);
        due("elements stay", x.count(1), 2);
        due("struck", x.count(2), 1);
        due("rows", x.count(3), 10);
        x = locked(20, el(CHANGE, 2), el(CHANGE, 3), el(CHANGE, 4));
        x.strike(1);
        sheetIs(x, 1, 0, 7, 2, 0, 2);
        x.strike(0);
        sheetIs(x, 1, 0, 4, 1, 2, 2);
    }

    private static void strikeCalls() {
        says("strike: STRUCK: 1. BAD; NO: not LOCKED, or it is so");
        ScriptDesk x = made(10, el(CHANGE, 1), el(CHANGE, 1));
        due("not locked", x.strike(0), NO);
        due("not locked, e 2", x.strike(2), BAD);
        due("not locked, e -1", x.strike(-1), BAD);
        x.lock();
        due("e -1", x.strike(-1), BAD);
        due("e 2", x.strike(2), BAD);
        for (int far : FAR) {
            due("e " + far, x.strike(far), BAD);
        }
        due("e 1", x.strike(1), 1);
        due("e 1 again", x.strike(1), NO);
        due("e 0", x.strike(0), 1);
        due("e 0 again", x.strike(0), NO);
        due("no elements", new ScriptDesk().strike(0), BAD);
    }

    // ------------------------------------------------------------ INSERTED

    private static void inserted() {
        says("INSERTED: a new ELEMENT (numbered behind all; of a KIND, with the WORDS of THE TAPE)");
        for (int kind = 0; kind < 6; kind++) {
            ScriptDesk x = locked(10, el(CHANGE, 1), el(CHANGE, 1));
            put(x, "  a b\nc  ");
            due("number", x.insert(0, kind), 2);
            due("kind", x.element(2, 0), kind);
            due("words", x.element(2, 1), 3);
            due("not struck", x.element(2, 3), 0);
            rowsAre(x, 2, "a b c");
            due("count(1)", x.count(1), 3);
            says("with THE TAPE, which is empty then (10 as a blank)");
            due("the tape", x.count(0), 0);
            put(x, "INT. A\n\nBOB\nhi");
            due("no lines are looked at", x.insert(0, kind), 3);
            rowsAre(x, 3, "INT. A BOB hi");
            due("kind", x.element(3, 0), kind);
        }
    }

    private static void insertedWithAFullTape() {
        says("with THE TAPE: all 1200 bytes of it");
        int[] rows = {30, 30, 50, 60, 43, 30};
        for (int kind = 0; kind < 6; kind++) {
            ScriptDesk x = locked(40, el(CHANGE, 1));
            due("fed", put(x, "w".repeat(1200)), 1200);
            due("number", x.insert(0, kind), 1);
            due("one word", x.element(1, 1), 1);
            due("rows", x.element(1, 2), rows[kind]);
            due("the tape is empty", x.count(0), 0);
            put(x, "\n".repeat(1199) + "w");
            due("one word behind many 10s", x.insert(0, kind), 2);
            rowsAre(x, 2, "w");
        }
        ScriptDesk x = locked(40, el(CHANGE, 1));
        put(x, "a ".repeat(600));
        due("600 words", x.insert(0, ASIDE), 1);
        due("words", x.element(1, 1), 600);
        due("10 in a row", x.element(1, 2), 60);
    }

    private static void insertedBehindLastPiece() {
        says("all its ROWS one PIECE behind the last PIECE of e");
        ScriptDesk x = locked(20, el(CHANGE, 1), el(CHANGE, 2), el(CHANGE, 3));
        insertRows(x, 0, CHANGE, 4);
        insertRows(x, 0, CHANGE, 5);
        due("merge()", x.merge(), 5);
        int[] rows = {1, 5, 4, 2, 3};
        for (int e = 0; e < 5; e++) {
            due("rows of " + e, x.element(e, 2), rows[e]);
        }
        // In groups 1, 2, 3, and group 3 goes on with a change.
        x = locked(10, el(SPEECH, 26), el(CHANGE, 10));
        due("groups", x.pages(), 4);
        insertRows(x, 0, CHANGE, 2);
        due("behind the piece in group 3", x.where(2), 3 * 32 + 1);
        sheetIs(x, 1, 0, 10, 1, 0, 0);
        sheetIs(x, 2, 0, 10, 1, 0, 0);
        sheetIs(x, 3, 0, 10, 1, 0, 0);
        sheetIs(x, 3, 1, 2, 1, 2, 2);
        sheetIs(x, 4, 0, 10, 1, 1, 1);
        says("behind the last PIECE of e, in its GROUP, not in the next one");
        x = locked(10, el(CHANGE, 5), el(CHANGE, 10), el(CHANGE, 5));
        insertRows(x, 0, ASIDE, 1);
        due("group 1", x.where(3), 32);
        insertRows(x, 1, ASIDE, 1);
        due("group 2", x.where(4), 2 * 32 + 1);
        insertRows(x, 2, ASIDE, 1);
        due("group 3", x.where(5), 3 * 32);
        insertRows(x, 5, ASIDE, 1);
        due("behind one that was inserted", x.where(6), 3 * 32);
        sheetIs(x, 3, 0, 7, 3, 2, 6);
    }

    private static void noOtherIsBroken() {
        says("(and no other one is broken by it)");
        ScriptDesk x = locked(10, el(ACTION, 4), el(ACTION, 4));
        insertRows(x, 0, ACTION, 4);
        // 4 + 1 + 4 rows, then no room; 4 rows.
        sheetIs(x, 1, 0, 9, 2, 0, 2);
        sheetIs(x, 1, 1, 4, 1, 1, 1);
        x.merge();
        for (int e = 0; e < 3; e++) {
            due("rows of " + e, x.element(e, 2), 4);
        }
    }

    private static void insertCalls() {
        says("insert: BAD; NO: not LOCKED, e is STRUCK, or THE TAPE has no WORD");
        ScriptDesk x = made(10, el(CHANGE, 1), el(CHANGE, 1));
        put(x, "w");
        due("not locked", x.insert(0, 5), NO);
        due("not locked, kind 6", x.insert(0, 6), BAD);
        due("not locked, e 2", x.insert(2, 5), BAD);
        x.lock();
        due("e -1", x.insert(-1, 5), BAD);
        due("e 2", x.insert(2, 5), BAD);
        due("kind -1", x.insert(0, -1), BAD);
        due("kind 6", x.insert(0, 6), BAD);
        for (int far : FAR) {
            due("e " + far, x.insert(far, 5), BAD);
            due("kind " + far, x.insert(0, far), BAD);
        }
        x.strike(0);
        due("struck", x.insert(0, 5), NO);
        due("struck, kind 6", x.insert(0, 6), BAD);
        due("the tape stays", x.count(0), 1);
        x.cut(0);
        due("no tape", x.insert(1, 5), NO);
        due("no tape, kind 6", x.insert(1, 6), BAD);
        due("no tape, e 2", x.insert(2, 5), BAD);
        put(x, " ");
        due("a blank", x.insert(1, 5), NO);
        put(x, "\n");
        due("a blank and 10", x.insert(1, 5), NO);
        put(x, ".");
        due("a word behind them", x.insert(1, 5), 2);
        put(x, ".  \n");
        due("a word ahead of them", x.insert(2, 0), 3);
    }

    // ------------------------------------------------------------ SHEETS

    private static void exactRoom() {
        says("by the rules of 2: at most L ROWS");
        int[] kinds = {HEAD, CHANGE, NAME, ASIDE, SPEECH, ACTION};
        for (int kind : kinds) {
            int empty = kind == ASIDE || kind == SPEECH ? 0 : 1;
            ScriptDesk x = locked(10, el(CHANGE, 7));
            insertRows(x, 0, kind, 3 - empty);
            sheetRows(x, 1, 10);
            x = locked(10, el(CHANGE, 7));
            insertRows(x, 0, kind, 4 - empty);
            // A row more: the sheet ends behind the change, but a speech of four is broken.
            if (kind == SPEECH) {
                sheetRows(x, 1, 10, 3);
            } else {
                sheetRows(x, 1, 7, 4 - empty);
            }
        }
    }

    private static void asManyRowsAsMayBe() {
        says("always as many ROWS as may be on a SHEET");
        ScriptDesk x = locked(10, el(CHANGE, 5));
        insertRows(x, 0, ACTION, 6);
        sheetRows(x, 1, 10, 2);
        sheetIs(x, 1, 0, 10, 2, 0, 1);
        sheetIs(x, 1, 1, 2, 1, 1, 1);
        x = locked(10, el(CHANGE, 7));
        insertRows(x, 0, ACTION, 4);
        says("always as many ROWS as may be: no COST is looked at");
        sheetRows(x, 1, 10, 2);
        x = locked(10, el(CHANGE, 6), el(CHANGE, 2));
        insertRows(x, 1, CHANGE, 6);
        insertRows(x, 2, CHANGE, 10);
        sheetRows(x, 1, 9, 6, 10);
        says("its PIECES are laid again, from its beginning");
        x.strike(0);
        // 2 + 1 + 6 rows, then 10.
        sheetRows(x, 1, 9, 10);
        sheetIs(x, 1, 0, 9, 2, 1, 2);
    }

    private static void sheetMayEndBehind() {
        says("by the rules of 2: behind a PIECE that is no HEAD, NAME, or ASIDE");
        for (int kind = 0; kind < 6; kind++) {
            int empty = kind == ASIDE || kind == SPEECH ? 0 : 1;
            boolean may = kind != HEAD && kind != NAME && kind != ASIDE;
            ScriptDesk x = locked(10, el(CHANGE, 1));
            insertRows(x, 0, kind, 9 - empty);
            insertRows(x, 1, CHANGE, 3);
            if (may) {
                sheetRows(x, 1, 10, 3);
                sheetIs(x, 1, 1, 3, 1, 2, 2);
            } else if (empty == 1) {
                // The change alone; 8 rows, an empty one and one of three; two.
                sheetRows(x, 1, 1, 10, 2);
                sheetIs(x, 1, 1, 10, 2, 1, 2);
            } else {
                // The change alone; 9 rows (an empty one stays off); three.
                sheetRows(x, 1, 1, 9, 3);
                sheetIs(x, 1, 1, 9, 1, 1, 1);
            }
        }
    }

    private static void twoRowsInAPiece() {
        says("within an ACTION or a SPEECH that has two ROWS ahead of that place and two behind it");
        int[][] want = {{7, 3}, {10, 2}, {10, 3}};
        for (int rows = 3; rows <= 5; rows++) {
            ScriptDesk x = locked(10, el(CHANGE, 7));
            insertRows(x, 0, ACTION, rows);
            sheetRows(x, 1, want[rows - 3]);
        }
        ScriptDesk x = locked(10, el(CHANGE, 8));
        insertRows(x, 0, ACTION, 9);
        says("one ROW ahead is not enough");
        sheetRows(x, 1, 8, 9);
        x = locked(10, el(CHANGE, 5));
        insertRows(x, 0, ACTION, 5);
        says("one ROW behind is not enough");
        sheetRows(x, 1, 9, 2);
        x = locked(10, el(CHANGE, 5));
        insertRows(x, 0, ACTION, 15);
        says("one ROW behind is not enough, also counted from where it was broken before");
        sheetRows(x, 1, 10, 9, 2);
        for (int kind = 0; kind <= 3; kind++) {
            x = locked(10, el(CHANGE, 1));
            insertRows(x, 0, kind, 10);
            says("within no other KIND, where a place allows it");
            sheetRows(x, 1, 1, 10);
        }
    }

    private static void moreOnSheets() {
        says("by the rules of 2: (MORE), and the NAME's ROW on the next");
        ScriptDesk x = locked(10, el(CHANGE, 6));
        insertRows(x, 0, SPEECH, 8);
        sheetRows(x, 1, 10, 6);
        x = locked(10, el(CHANGE, 7));
        insertRows(x, 0, SPEECH, 4);
        sheetRows(x, 1, 10, 3);
        x = locked(10, el(CHANGE, 8));
        insertRows(x, 0, SPEECH, 4);
        sheetRows(x, 1, 8, 4);
        x = locked(10, el(CHANGE, 5));
        insertRows(x, 0, SPEECH, 20);
        // 5 + 4 + (MORE); (CONT) 8 (MORE); (CONT) 8.
        sheetRows(x, 1, 10, 10, 9);
        x = locked(10, el(CHANGE, 5));
        insertRows(x, 0, SPEECH, 21);
        sheetRows(x, 1, 10, 10, 10);
        x = locked(10, el(CHANGE, 5));
        insertRows(x, 0, SPEECH, 22);
        // (CONT) 8 (MORE) leaves two.
        sheetRows(x, 1, 10, 10, 10, 3);
    }

    private static void groupBeginsWithinSpeech() {
        says("a PIECE that begins within its ELEMENT, of a SPEECH, where its GROUP begins with it, has the NAME's ROW");
        ScriptDesk x = locked(10, el(SPEECH, 18), el(CHANGE, 10));
        due("groups", x.pages(), 3);
        sheetRows(x, 2, 10);
        insertRows(x, 0, ASIDE, 1);
        // (CONT) and 9 rows; the aside.
        sheetRows(x, 2, 10, 1);
        x = locked(10, el(SPEECH, 17), el(CHANGE, 10));
        // 9 and (MORE); (CONT) and 8.
        sheetRows(x, 2, 9);
        insertRows(x, 0, ASIDE, 1);
        sheetRows(x, 2, 10);
        insertRows(x, 2, ASIDE, 1);
        // Behind the speech it may end, behind the aside not.
        sheetRows(x, 2, 9, 2);
    }

    private static void groupEndsWithinSpeech() {
        says("one that ends within its ELEMENT, of a SPEECH, where its GROUP ends with it, has (MORE)");
        ScriptDesk x = locked(10, el(CHANGE, 1), el(SPEECH, 17));
        due("groups", x.pages(), 2);
        sheetRows(x, 1, 10);
        sheetIs(x, 1, 0, 10, 2, 0, 1);
        x.strike(0);
        sheetRows(x, 1, 9);
        says("PIECES are what ELEMENTS are there: two ROWS behind it in the PIECE");
        x = locked(10, el(CHANGE, 1), el(SPEECH, 17));
        insertRows(x, 0, ASIDE, 1);
        // 1 + 1 + 6 + (MORE), for 7 would leave one row of the piece of 8; (CONT) 2 (MORE).
        sheetRows(x, 1, 9, 4);
        sheetIs(x, 1, 0, 9, 3, 0, 1);
        sheetIs(x, 1, 1, 4, 1, 1, 1);
        sheetRows(x, 2, 10);
        says("(MORE) needs room at the end of a GROUP");
        x = locked(10, el(NAME, 1), el(SPEECH, 17));
        x.strike(0);
        sheetRows(x, 1, 9);
        says("a GROUP within a SPEECH has both");
        x = locked(10, el(SPEECH, 26));
        sheetRows(x, 1, 10);
        sheetRows(x, 2, 10);
        sheetRows(x, 3, 10);
    }

    private static void piecesOfActions() {
        says("a PIECE that begins within its ELEMENT has no empty ROW ahead");
        ScriptDesk x = locked(10, el(CHANGE, 1), el(ACTION, 17));
        due("groups", x.pages(), 2);
        sheetRows(x, 1, 10);
        sheetRows(x, 2, 9);
        x.strike(0);
        sheetRows(x, 1, 8);
        says("PIECES are what ELEMENTS are there: of an ACTION");
        x = locked(10, el(CHANGE, 1), el(ACTION, 17));
        insertRows(x, 0, ASIDE, 1);
        // 1 + 1 + empty + 6, for 7 would leave one row of the piece of 8; 2.
        sheetRows(x, 1, 9, 2);
        sheetRows(x, 2, 9);
    }

    private static void lastSheetEndsBehindAll() {
        says("the last SHEET ends behind all");
        for (int kind = 0; kind < 6; kind++) {
            ScriptDesk x = locked(10, el(CHANGE, 10));
            insertRows(x, 0, kind, 2);
            sheetRows(x, 1, 10, 2);
            sheetIs(x, 1, 1, 2, 1, 1, 1);
            x.strike(0);
            sheetRows(x, 1, 2);
        }
    }

    private static void forcedRows() {
        says("where no place that has room allows it, as many ROWS of PIECES as there is room for");
        for (int kind = 0; kind <= 3; kind++) {
            int[][] want = {{10}, {10, 1}, {10, 10}, {10, 10, 1}};
            int[] rows = {10, 11, 20, 21};
            for (int i = 0; i < 4; i++) {
                ScriptDesk x = locked(10, el(CHANGE, 1));
                insertRows(x, 0, kind, rows[i]);
                x.strike(0);
                sheetRows(x, 1, want[i]);
            }
        }
        says("but only where none allows it");
        ScriptDesk x = locked(10, el(CHANGE, 1));
        insertRows(x, 0, HEAD, 11);
        sheetRows(x, 1, 1, 10, 1);
        says("behind whatever they are");
        x = locked(10, el(HEAD, 4));
        insertRows(x, 0, HEAD, 5);
        insertRows(x, 1, HEAD, 5);
        // 4 + 1 + 5 rows end behind a head; then 5.
        sheetRows(x, 1, 10, 5);
        sheetIs(x, 1, 0, 10, 2, 0, 1);
        x = locked(10, el(NAME, 4));
        insertRows(x, 0, ASIDE, 7);
        // 4 + 6 rows end within an aside; one is left, and it ends behind all.
        sheetRows(x, 1, 10, 1);
        sheetIs(x, 1, 0, 10, 2, 0, 1);
        sheetIs(x, 1, 1, 1, 1, 1, 1);
        says("a SHEET that begins within what was broken so");
        insertRows(x, 1, CHANGE, 8);
        sheetRows(x, 1, 10, 10);
        sheetIs(x, 1, 1, 10, 2, 1, 2);
        says("within an ACTION that has one ROW of room: behind that ROW");
        x = locked(10, el(HEAD, 8));
        insertRows(x, 0, ACTION, 9);
        sheetRows(x, 1, 10, 8);
        says("and two ROWS behind it, also counted from there");
        x = locked(10, el(HEAD, 8));
        insertRows(x, 0, ACTION, 12);
        sheetRows(x, 1, 10, 9, 2);
        x = locked(10, el(HEAD, 8));
        insertRows(x, 0, ACTION, 13);
        sheetRows(x, 1, 10, 10, 2);
    }

    private static void forcedMore() {
        says("((MORE) and the NAME's ROW count as ever)");
        int[][] shape = {{7, 3}, {8, 2}, {8, 3}, {9, 1}, {9, 2}, {9, 3}, {10, 1}};
        int[][] want = {{10}, {10}, {10, 3}, {10}, {9, 2}, {9, 3}, {10, 1}};
        for (int i = 0; i < shape.length; i++) {
            ScriptDesk x = locked(20, el(NAME, shape[i][0]), el(SPEECH, shape[i][1]));
            x.merge();
            x.length(10);
            if (want[i].length == 2) {
                due("no breaking of " + shape[i][0] + ", " + shape[i][1], x.pages(), 0);
            }
            x = locked(10, el(NAME, shape[i][0]));
            insertRows(x, 0, SPEECH, shape[i][1]);
            sheetRows(x, 1, want[i]);
        }
        says("a SPEECH that might be broken by the rules, but for the room of (MORE)");
        ScriptDesk x = locked(10, el(NAME, 8));
        insertRows(x, 0, SPEECH, 4);
        // 8 + 2 + (MORE) has no room: forced behind one row, with (MORE); then (CONT) and 3.
        sheetRows(x, 1, 10, 4);
        x = locked(10, el(NAME, 8));
        insertRows(x, 0, SPEECH, 12);
        sheetRows(x, 1, 10, 10, 4);
    }

    private static void forcedEmptyRow() {
        says("(an empty ROW only with the ROW behind it)");
        int[][] shape = {{8, 1}, {8, 2}, {9, 1}, {9, 2}, {10, 1}};
        int[][] want = {{10}, {10, 1}, {9, 1}, {9, 2}, {10, 1}};
        for (int i = 0; i < shape.length; i++) {
            ScriptDesk x = locked(10, el(HEAD, shape[i][0]));
            insertRows(x, 0, HEAD, shape[i][1]);
            sheetRows(x, 1, want[i]);
        }
    }

    private static void sheetsOfOtherLengths() {
        says("A SHEET has at most L ROWS, as L is when LOCKED");
        for (int length : new int[] {11, 20, 40}) {
            ScriptDesk x = locked(length, el(CHANGE, length - 3));
            insertRows(x, 0, CHANGE, 2);
            sheetRows(x, 1, length);
            insertRows(x, 1, CHANGE, 1);
            sheetRows(x, 1, length, 1);
        }
    }

    // ------------------------------------------------------------ as much as there may be

    /** Group 1 has 27 SHEETS: changes of one ROW, and asides of ten that nothing else goes with. */
    private static ScriptDesk fullGroup() {
        ScriptDesk x = locked(10, el(CHANGE, 1));
        int last = 0;
        for (int pair = 1; pair <= 13; pair++) {
            last = insertRows(x, last, ASIDE, 10);
            due("sheets, an aside more", x.sheets(1), 2 * pair);
            last = insertRows(x, last, CHANGE, 1);
            due("sheets, a change more", x.sheets(1), 2 * pair + 1);
        }
        return x;
    }

    private static void twentySevenSheets() {
        says("SHEETS of GROUP n are n, n A, n B, .. 26 letters at most");
        ScriptDesk x = fullGroup();
        due("sheets", x.sheets(1), 27);
        sheetIs(x, 1, 26, 1, 1, 26, 26);
        sheetIs(x, 1, 25, 10, 1, 25, 25);
        due("sheet 27", x.sheet(1, 27, 0), BAD);
        due("where", x.where(26), 32 + 26);
        says("FULL: the GROUP would have above 27 SHEETS");
        put(x, fewBytes(10, 20));
        String before = look(x);
        due("a 28th", x.insert(26, ASIDE), FULL);
        same("nothing has changed", look(x), before);
        due("ahead of another one", x.insert(3, ASIDE), FULL);
        says("not above 27: what makes no SHEET more goes in");
        x.cut(0);
        put(x, "w");
        due("on the last sheet", x.insert(26, CHANGE), 27);
        due("sheets", x.sheets(1), 27);
        due("its rows", x.sheet(1, 26, 0), 3);
        says("what is struck makes room again");
        x.strike(25);
        due("sheets", x.sheets(1), 25);
        put(x, fewBytes(10, 20));
        due("an aside again", x.insert(24, ASIDE), 28);
        due("sheets", x.sheets(1), 27);
        says("the GROUP, not another one");
        x = locked(10, el(CHANGE, 10), el(CHANGE, 10));
        for (int i = 0; i < 13; i++) {
            insertRows(x, 0, ASIDE, 10);
            insertRows(x, 0, CHANGE, 1);
        }
        due("sheets of group 1", x.sheets(1), 27);
        put(x, fewBytes(10, 20));
        due("group 1 is full", x.insert(0, ASIDE), FULL);
        due("group 2 is not", x.insert(1, ASIDE), 28);
        due("sheets of group 2", x.sheets(2), 2);
    }

    private static void sixtyElements() {
        says("FULL: 60 ELEMENTS");
        ScriptDesk x = lockedDesk(times(58, "x\n\n"), 10);
        for (int number = 58; number < 60; number++) {
            put(x, "y");
            due("number", x.insert(0, ACTION), number);
        }
        put(x, "y");
        String before = look(x);
        due("a 61st", x.insert(0, ACTION), FULL);
        due("behind the last", x.insert(59, ACTION), FULL);
        same("nothing has changed", look(x), before);
        says("FULL: 60 ELEMENTS, those STRUCK too");
        x.strike(59);
        x.strike(3);
        due("two struck", x.insert(0, ACTION), FULL);
        due("merge()", x.merge(), 58);
        x.lock();
        due("merged", x.insert(0, ACTION), 58);
        put(x, "y");
        due("the 60th", x.insert(0, ACTION), 59);
        put(x, "y");
        due("the 61st", x.insert(0, ACTION), FULL);
        says("the first of: BAD, NO, FULL");
        x.strike(7);
        due("NO ahead of FULL: struck", x.insert(7, ACTION), NO);
        due("BAD ahead of FULL: e", x.insert(60, ACTION), BAD);
        due("BAD ahead of FULL: kind", x.insert(0, 6), BAD);
        x.cut(0);
        due("NO ahead of FULL: no word", x.insert(0, ACTION), NO);
    }

    /**
     * Four SHEETS that begin anew: a change, a head of 6 and a change; 10 rows of an aside of 14; its
     * rest and a change; an aside of 10. Answers its last number; e + 3 is the change that, struck,
     * leaves five of them: the change; the head with 4 rows of the aside; 10 rows; a change; 10.
     */
    private static int fourSheets(ScriptDesk x, int e) {
        int[][] shape = {el(CHANGE, 1), el(HEAD, 6), el(CHANGE, 1), el(ASIDE, 14), el(CHANGE, 1),
            el(ASIDE, 10)};
        int last = e;
        for (int[] told : shape) {
            last = insertRows(x, last, told[0], told[1]);
        }
        return last;
    }

    private static void strikeAboveTwentySeven() {
        says("strike refuses nothing for SHEETS: where a place that allowed an end goes, more are due");
        ScriptDesk x = locked(10, el(CHANGE, 10));
        fourSheets(x, 0);
        sheetRows(x, 1, 10, 10, 10, 6, 10);
        x.strike(3);
        sheetRows(x, 1, 10, 1, 10, 10, 1, 10);
        says("a GROUP of 27 SHEETS, and what strikes leave of it");
        x = locked(10, el(CHANGE, 1));
        int last = insertRows(x, 0, ASIDE, 10);
        for (int pair = 2; pair <= 9; pair++) {
            last = insertRows(x, last, CHANGE, 1);
            last = insertRows(x, last, ASIDE, 10);
        }
        int first = last + 3;
        last = fourSheets(x, last);
        int second = last + 3;
        last = insertRows(x, fourSheets(x, last), CHANGE, 1);
        due("sheets", x.sheets(1), 27);
        due("where the last one is", x.where(last), 32 + 26);
        x.strike(second);
        due("sheets, one struck", x.sheets(1), 28);
        sheetIs(x, 1, 27, 1, 1, last, last);
        x.strike(first);
        due("sheets, two struck", x.sheets(1), 29);
        sheetIs(x, 1, 28, 1, 1, last, last);
        sheetIs(x, 1, 27, 10, 1, last - 1, last - 1);
        due("sheet 29", x.sheet(1, 29, 0), BAD);
        due("where the last one is", x.where(last), 32 + 28);
        says("FULL: the GROUP would have above 27 SHEETS, as it has");
        put(x, "w");
        String before = look(x);
        due("nothing goes in", x.insert(last, ASIDE), FULL);
        same("nothing has changed", look(x), before);
        says("above 27 SHEETS: it can be LOCKED no more");
        due("merge()", x.merge(), last - 1);
        due("count(2)", x.count(2), 0);
    }

    private static void groupOfOneRow() {
        says("A GROUP has SHEETS: of one ROW");
        for (int kind = 0; kind < 6; kind++) {
            ScriptDesk x = locked(10, el(kind, 1));
            sheetRows(x, 1, 1);
            sheetIs(x, 1, 0, 1, 1, 0, 0);
            due("where", x.where(0), 32);
        }
    }

    private static void groupWithoutPieces() {
        says("A GROUP without PIECES has one SHEET without ROWS");
        ScriptDesk x = locked(10, el(CHANGE, 10), el(CHANGE, 10), el(CHANGE, 10));
        x.strike(1);
        due("sheets(2)", x.sheets(2), 1);
        sheetIs(x, 2, 0, 0, 0, NONE, NONE);
        due("sheet(2, 1, 0)", x.sheet(2, 1, 0), BAD);
        sheetIs(x, 1, 0, 10, 1, 0, 0);
        sheetIs(x, 3, 0, 10, 1, 2, 2);
        x.strike(0);
        x.strike(2);
        for (int g = 1; g <= 3; g++) {
            sheetRows(x, g, 0);
        }
        due("pages()", x.pages(), 3);
        due("merge()", x.merge(), 0);
        due("pages()", x.pages(), 0);
    }

    // ------------------------------------------------------------ the calls

    private static void sheetCalls() {
        says("sheets: NO: not LOCKED; then BAD");
        ScriptDesk x = made(10, el(CHANGE, 10), el(CHANGE, 3));
        due("not locked", x.sheets(1), NO);
        due("not locked, group 0", x.sheets(0), NO);
        due("not locked, group 9", x.sheets(9), NO);
        says("sheet: BAD: what; then NO; then BAD");
        due("not locked", x.sheet(1, 0, 0), NO);
        due("not locked, group 9", x.sheet(9, 0, 0), NO);
        due("not locked, what 4", x.sheet(1, 0, 4), BAD);
        due("not locked, what -1", x.sheet(1, 0, -1), BAD);
        x.lock();
        due("group 0", x.sheets(0), BAD);
        due("group 1", x.sheets(1), 1);
        due("group 2", x.sheets(2), 1);
        due("group 3", x.sheets(3), BAD);
        due("group 0", x.sheet(0, 0, 0), BAD);
        due("group 3", x.sheet(3, 0, 0), BAD);
        due("s -1", x.sheet(1, -1, 0), BAD);
        due("s 1", x.sheet(1, 1, 0), BAD);
        due("what -1", x.sheet(1, 0, -1), BAD);
        due("what 3", x.sheet(1, 0, 3), 0);
        due("what 4", x.sheet(1, 0, 4), BAD);
        for (int far : FAR) {
            due("sheets(" + far + ")", x.sheets(far), BAD);
            due("group " + far, x.sheet(far, 0, 0), BAD);
            due("s " + far, x.sheet(1, far, 0), BAD);
            due("what " + far, x.sheet(1, 0, far), BAD);
        }
        says("1 how many PIECES, in whole or part, are on it, 2 the ELEMENT of the first, 3 of the last");
        insertRows(x, 1, ACTION, 9);
        // 3 + 1 + 6 rows, 3 rows and an empty one and a change.
        insertRows(x, 2, CHANGE, 1);
        sheetIs(x, 2, 0, 10, 2, 1, 2);
        sheetIs(x, 2, 1, 5, 2, 2, 3);
    }

    private static void whereCalls() {
        says("where: NONE: STRUCK. BAD; NO: not LOCKED");
        ScriptDesk x = made(10, el(CHANGE, 10), el(SPEECH, 18));
        due("not locked", x.where(0), NO);
        due("not locked, e 2", x.where(2), BAD);
        due("not locked, e -1", x.where(-1), BAD);
        x.lock();
        due("e -1", x.where(-1), BAD);
        due("e 2", x.where(2), BAD);
        for (int far : FAR) {
            due("e " + far, x.where(far), BAD);
        }
        says("In which GROUP an ELEMENT begins, and its first ROW's SHEET: the GROUP times 32, and s");
        due("e 0", x.where(0), 32);
        due("e 1, in groups 2 and 3", x.where(1), 64);
        insertRows(x, 1, ACTION, 2);
        due("on sheet A", x.where(2), 97);
        insertRows(x, 2, ACTION, 11);
        due("begins on sheet A", x.where(3), 97);
        due("goes on on sheet B", x.sheet(3, 2, 2), 3);
        insertRows(x, 3, ACTION, 1);
        due("on sheet B", x.where(4), 98);
        says("where: each GROUP by itself, whichever was looked at before");
        due("sheets of group 1", x.sheets(1), 1);
        due("in group 3", x.where(4), 98);
        due("sheet of group 1", x.sheet(1, 0, 0), 10);
        due("in group 3", x.where(2), 97);
        due("in group 1", x.where(0), 32);
        x.strike(1);
        due("struck", x.where(1), NONE);
        due("moved up", x.where(2), 96);
        due("moved up, goes on", x.where(3), 96);
    }

    private static void merged() {
        says("merge: LOCKED no more: STRUCK ELEMENTS go, all are numbered anew as they stand: how many");
        ScriptDesk x = locked(10, el(CHANGE, 1), el(CHANGE, 2), el(SPEECH, 20), el(CHANGE, 3));
        insertRows(x, 0, HEAD, 4);
        insertRows(x, 2, NAME, 5);
        x.strike(1);
        due("how many", x.merge(), 5);
        int[] kinds = {CHANGE, HEAD, SPEECH, NAME, CHANGE};
        int[] rows = {1, 4, 20, 5, 3};
        for (int e = 0; e < 5; e++) {
            due("kind of " + e, x.element(e, 0), kinds[e]);
            due("rows of " + e, x.element(e, 2), rows[e]);
            due("struck " + e, x.element(e, 3), 0);
            due("where " + e, x.where(e), NO);
        }
        due("count(1)", x.count(1), 5);
        due("count(2)", x.count(2), 0);
        due("count(4)", x.count(4), 0);
        due("sheets", x.sheets(1), NO);
        says("merge: NO: not LOCKED");
        due("again", x.merge(), NO);
        due("a new one", new ScriptDesk().merge(), NO);
        says("merge: THE TAPE and L are not told to change");
        x = locked(13, el(CHANGE, 1));
        put(x, "tape");
        x.merge();
        due("count(0)", x.count(0), 4);
        due("count(5)", x.count(5), 13);
        says("ACTIONS that come to stand side by side stay two");
        x = locked(10, el(ACTION, 1), el(CHANGE, 1), el(ACTION, 1));
        x.strike(1);
        due("merge()", x.merge(), 2);
        x = locked(10, el(SPEECH, 26));
        due("what stood in three groups is one", x.merge(), 1);
        due("its rows", x.element(0, 2), 26);
    }
}
