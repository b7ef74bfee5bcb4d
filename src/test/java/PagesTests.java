/** Section 2 of the document, sentence by sentence: PAGES and THE BREAKING. */
public final class PagesTests extends Bench {
    public static void main(String[] args) {
        lengths();
        atMostLRows();
        emptyRowAhead();
        endBehindAnElement();
        endWithinAnElement();
        twoRowsBesideABreak();
        brokenBefore();
        moreAndCont();
        nameOfAnyLength();
        noElements();
        lastPageEndsBehindAll();
        squareOfWhatLacks();
        costOfBreaks();
        leastCost();
        likeCosts();
        noPlaceAllowsIt();
        inOrder();
        nothingStaysOfWhatWas();
        manyRows();
        pageCalls();
        end();
    }

    private static void lengths() {
        says("L ROWS (10 .. 40; 20 at first)");
        ScriptDesk x = new ScriptDesk();
        due("L", x.count(5), 20);
        due("length(9)", x.length(9), BAD);
        due("length(10)", x.length(10), 20);
        due("length(11)", x.length(11), 10);
        due("length(39)", x.length(39), 11);
        due("length(40)", x.length(40), 39);
        due("length(41)", x.length(41), BAD);
        for (int far : FAR) {
            due("length(" + far + ")", x.length(far), BAD);
        }
        due("length(0)", x.length(0), BAD);
        due("length(-10)", x.length(-10), BAD);
        due("L", x.count(5), 40);
        says("length: L: what it was. BAD; NO: LOCKED");
        x = locked(10, el(ACTION, 11));
        due("length(20)", x.length(20), NO);
        due("length(10), as it is", x.length(10), NO);
        due("length(41)", x.length(41), BAD);
        due("L", x.count(5), 10);
        due("pages", x.pages(), 2);
        x.merge();
        due("length(11)", x.length(11), 10);
        due("pages", x.pages(), 1);
    }

    private static void atMostLRows() {
        says("A PAGE has at most L ROWS");
        for (int length : new int[] {10, 11, 20, 39, 40}) {
            due("L less 1", made(length, el(CHANGE, length - 1)).pages(), 1);
            due("L", made(length, el(CHANGE, length)).pages(), 1);
            due("L and 1", made(length, el(CHANGE, length + 1)).pages(), 0);
            ScriptDesk x = made(length, el(CHANGE, length - 2), el(CHANGE, 1));
            due("L with the empty row", x.pages(), 1);
            due("its rows", x.page(0, 0), length);
            x = made(length, el(CHANGE, length - 1), el(CHANGE, 1));
            due("L and 1 with the empty row", x.pages(), 2);
            due("cost", x.cost(), 1);
            x = made(length, el(CHANGE, length - 1), el(ASIDE, 1));
            due("L without one", x.page(0, 0), length);
        }
    }

    private static void emptyRowAhead() {
        for (int kind = 0; kind < 6; kind++) {
            int empty = kind == ASIDE || kind == SPEECH ? 0 : 1;
            says("Ahead of an ELEMENT, but an ASIDE or SPEECH, stands an empty ROW");
            ScriptDesk x = made(20, el(ACTION, 2), el(kind, 3));
            due("rows, kind " + kind, x.page(0, 0), 5 + empty);
            x = made(20, el(kind, 2), el(kind, 3), el(kind, 4));
            due("rows, thrice kind " + kind, x.page(0, 0), 9 + 2 * empty);
            says("but not where a PAGE begins");
            due("page 0 begins, kind " + kind, made(20, el(kind, 3)).page(0, 0), 3);
            x = made(10, el(CHANGE, 10), el(kind, 3));
            due("pages, kind " + kind, x.pages(), 2);
            due("page 1 begins, kind " + kind, x.page(1, 0), 3);
        }
    }

    private static void endBehindAnElement() {
        says("A PAGE may end behind an ELEMENT that is no HEAD, NAME, or ASIDE");
        for (int kind = 0; kind < 6; kind++) {
            boolean may = kind != HEAD && kind != NAME && kind != ASIDE;
            ScriptDesk x = made(10, el(kind, 9), el(CHANGE, 3));
            due("pages, kind " + kind, x.pages(), may ? 2 : 0);
            due("cost, kind " + kind, x.cost(), may ? 1 : NONE);
            pageIs(x, 0, may ? new int[] {9, 0, 0, 0, 9, 0, 0} : new int[] {BAD});
            pageIs(x, 1, may ? new int[] {3, 1, 0, 1, 3, 0, 0} : new int[] {BAD});
        }
        for (int kind : new int[] {HEAD, NAME, ASIDE}) {
            ScriptDesk x = made(10, el(CHANGE, 5), el(kind, 2), el(CHANGE, 3));
            due("pages, kind " + kind + " in the middle", x.pages(), 2);
            due("page 0 ends ahead of it", x.page(0, 3), 0);
            due("page 1 begins with it", x.page(1, 1), 1);
        }
    }

    private static void endWithinAnElement() {
        says("and within an ACTION or a SPEECH");
        for (int kind = 0; kind < 6; kind++) {
            boolean may = kind == ACTION || kind == SPEECH;
            ScriptDesk x = made(10, el(kind, 11));
            due("pages, kind " + kind, x.pages(), may ? 2 : 0);
            due("cost, kind " + kind, x.cost(), kind == ACTION ? 11 : may ? 30 : NONE);
        }
    }

    private static void twoRowsBesideABreak() {
        says("an ACTION that has two ROWS at least ahead of that place and two behind it");
        due("HEAD 7, ACTION 2: all on one", made(10, el(HEAD, 7), el(ACTION, 2)).pages(), 1);
        due("HEAD 7, ACTION 3: one behind", made(10, el(HEAD, 7), el(ACTION, 3)).pages(), 0);
        ScriptDesk x = made(10, el(HEAD, 7), el(ACTION, 4));
        pageIs(x, 0, 10, 0, 0, 1, 2, 0, 0);
        pageIs(x, 1, 2, 1, 2, 1, 4, 0, 0);
        due("HEAD 7, ACTION 4: two and two", x.cost(), 10);
        due("HEAD 8, ACTION 4: one ahead", made(10, el(HEAD, 8), el(ACTION, 4)).pages(), 0);
        due("HEAD 8, ACTION 9: one ahead", made(10, el(HEAD, 8), el(ACTION, 9)).pages(), 0);
        x = made(10, el(HEAD, 6), el(ACTION, 4));
        pageIs(x, 0, 9, 0, 0, 1, 2);
        due("HEAD 6, ACTION 4: not three and one", x.cost(), 11);
        x = made(10, el(HEAD, 6), el(ACTION, 5));
        pageIs(x, 0, 10, 0, 0, 1, 3);
        due("HEAD 6, ACTION 5: three and two", x.cost(), 10);

        says("a SPEECH that has two ROWS at least ahead of that place and two behind it");
        due("HEAD 7, SPEECH 3: all on one", made(10, el(HEAD, 7), el(SPEECH, 3)).pages(), 1);
        due("HEAD 8, SPEECH 3", made(10, el(HEAD, 8), el(SPEECH, 3)).pages(), 0);
        x = made(10, el(HEAD, 7), el(SPEECH, 4));
        pageIs(x, 0, 10, 0, 0, 1, 2, 0, 1);
        pageIs(x, 1, 3, 1, 2, 1, 4, 1, 0);
        due("HEAD 7, SPEECH 4: two and two", x.cost(), 30);
        due("HEAD 8, SPEECH 4: one ahead", made(10, el(HEAD, 8), el(SPEECH, 4)).pages(), 0);
        due("HEAD 8, SPEECH 9: one ahead", made(10, el(HEAD, 8), el(SPEECH, 9)).pages(), 0);
        x = made(10, el(HEAD, 5), el(SPEECH, 6));
        pageIs(x, 0, 10, 0, 0, 1, 4, 0, 1);
        due("HEAD 5, SPEECH 6: four and two", x.cost(), 30);
        x = made(11, el(HEAD, 6), el(SPEECH, 6));
        pageIs(x, 0, 11, 0, 0, 1, 4, 0, 1);
        pageIs(x, 1, 3, 1, 4, 1, 6, 1, 0);
    }

    private static void brokenBefore() {
        says("(also counted from where it was broken before)");
        // 10, 10 and 1 are not allowed; of 10, 9, 2 and 9, 10, 2 the first has more on page 0.
        ScriptDesk x = made(10, el(ACTION, 21));
        due("pages", x.pages(), 3);
        due("cost", x.cost(), 21);
        pageIs(x, 0, 10, 0, 0, 0, 10);
        pageIs(x, 1, 9, 0, 10, 0, 19);
        pageIs(x, 2, 2, 0, 19, 0, 21);
        x = made(10, el(ACTION, 22));
        pageIs(x, 1, 10, 0, 10, 0, 20);
        pageIs(x, 2, 2, 0, 20, 0, 22);
        due("cost of 22", x.cost(), 20);
        x = made(10, el(ACTION, 20));
        due("pages of 20", x.pages(), 2);
        due("cost of 20", x.cost(), 10);
        // 9 and (MORE), (CONT) 8 (MORE), (CONT) 2; one row less leaves two of 9.
        x = made(10, el(SPEECH, 19));
        due("pages of a speech of 19", x.pages(), 3);
        pageIs(x, 0, 10, 0, 0, 0, 9, 0, 1);
        pageIs(x, 1, 10, 0, 9, 0, 17, 1, 1);
        pageIs(x, 2, 3, 0, 17, 0, 19, 1, 0);
        due("its cost", x.cost(), 60);
        x = made(10, el(SPEECH, 18));
        due("pages of a speech of 18", x.pages(), 2);
        pageIs(x, 1, 10, 0, 9, 0, 18, 1, 0);
        due("its cost", x.cost(), 30);
    }

    private static void moreAndCont() {
        says("Broken within a SPEECH a PAGE has one ROW more at its end, (MORE), and the next PAGE one");
        ScriptDesk x = made(10, el(NAME, 1), el(SPEECH, 9));
        due("10 rows are one page", x.pages(), 1);
        due("without (MORE)", x.page(0, 0), 10);
        due("not broken", x.page(0, 6), 0);
        x = made(10, el(NAME, 1), el(SPEECH, 10));
        pageIs(x, 0, 10, 0, 0, 1, 8, 0, 1);
        pageIs(x, 1, 3, 1, 8, 1, 10, 1, 0);
        x = made(10, el(NAME, 1), el(SPEECH, 17));
        pageIs(x, 1, 10, 1, 8, 1, 17, 1, 0);
        due("pages of 17", x.pages(), 2);
        x = made(10, el(NAME, 1), el(SPEECH, 18));
        due("pages of 18", x.pages(), 3);
        says("(MORE) and (CONT) are not for what is broken within an ACTION");
        x = made(10, el(ACTION, 20));
        pageIs(x, 0, 10, 0, 0, 0, 10, 0, 0);
        pageIs(x, 1, 10, 0, 10, 0, 20, 0, 0);
        says("nor for what ends behind a SPEECH");
        x = made(10, el(SPEECH, 10), el(SPEECH, 10));
        pageIs(x, 0, 10, 0, 0, 0, 10, 0, 0);
        pageIs(x, 1, 10, 1, 0, 1, 10, 0, 0);
        due("cost", x.cost(), 0);
    }

    private static void nameOfAnyLength() {
        says("the NAME with a blank and (CONT) behind it (one ROW, whatever its length)");
        for (int rows = 1; rows <= 3; rows++) {
            int first = 10 - rows - 1;
            ScriptDesk x = made(10, el(NAME, rows), el(SPEECH, first + 9));
            due("pages", x.pages(), 2);
            pageIs(x, 0, 10, 0, 0, 1, first, 0, 1);
            pageIs(x, 1, 10, 1, first, 1, first + 9, 1, 0);
            due("cost", x.cost(), 30);
            x = made(10, el(NAME, rows), el(SPEECH, first + 10));
            due("pages, a row more", x.pages(), 3);
        }
        says("the NAME's ROW, as plainly told, also where no NAME stands ahead");
        ScriptDesk x = made(10, el(SPEECH, 18));
        due("page(1, 0)", x.page(1, 0), 10);
    }

    private static void noElements() {
        says("without ELEMENTS there is none");
        ScriptDesk x = new ScriptDesk();
        for (int length : new int[] {10, 20, 40}) {
            x.length(length);
            due("pages()", x.pages(), 0);
            due("cost()", x.cost(), NONE);
            due("page(0, 0)", x.page(0, 0), BAD);
            due("lock()", x.lock(), NO);
        }
        x = made(10);
        due("all struck and merged", x.pages(), 0);
        due("cost()", x.cost(), NONE);
    }

    private static void lastPageEndsBehindAll() {
        says("the last one ends behind all, whatever that is");
        for (int kind = 0; kind < 6; kind++) {
            ScriptDesk x = made(10, el(kind, 1));
            due("alone, kind " + kind, x.pages(), 1);
            pageIs(x, 0, 1, 0, 0, 0, 1, 0, 0);
            x = made(10, el(kind, 10));
            due("10 rows of kind " + kind, x.pages(), 1);
            x = made(10, el(CHANGE, 10), el(kind, 2));
            due("on page 1, kind " + kind, x.pages(), 2);
            pageIs(x, 1, 2, 1, 0, 1, 2, 0, 0);
            due("cost", x.cost(), 0);
        }
    }

    private static void squareOfWhatLacks() {
        says("COST: for each PAGE but the last the square of L less its ROWS");
        for (int rows = 1; rows <= 10; rows++) {
            int lack = 10 - rows;
            due(rows + " of 10", made(10, el(CHANGE, rows), el(HEAD, 10)).cost(), lack * lack);
        }
        due("1 of 40", made(40, el(CHANGE, 1), el(HEAD, 40)).cost(), 39 * 39);
        due("one page alone", made(40, el(CHANGE, 1)).cost(), 0);
        due("the last one does not count", made(10, el(CHANGE, 10), el(CHANGE, 1)).cost(), 0);
        due("two and the last", made(10, el(CHANGE, 7), el(CHANGE, 6), el(CHANGE, 9)).cost(), 25);
        says("its ROWS: empty ones too");
        due("7 + 1 + 1", made(10, el(CHANGE, 7), el(CHANGE, 1), el(CHANGE, 9)).cost(), 1);
    }

    private static void costOfBreaks() {
        says("30 for each break within a SPEECH, 10 within an ACTION");
        due("a speech", made(10, el(SPEECH, 18)).cost(), 30);
        due("twice a speech", made(10, el(SPEECH, 26)).cost(), 60);
        due("an action", made(10, el(ACTION, 20)).cost(), 10);
        due("twice an action", made(10, el(ACTION, 30)).cost(), 20);
        due("one of each", made(10, el(ACTION, 15), el(SPEECH, 12)).cost(), 40);
    }

    private static void leastCost() {
        says("The least COST");
        // Behind the CHANGE: 49, 36, 25; within the SPEECH: 30.
        int[] cost = {30, 30, 25};
        for (int i = 0; i < 3; i++) {
            ScriptDesk x = made(10, el(CHANGE, 3 + i), el(SPEECH, 8));
            due("a speech behind " + (3 + i), x.cost(), cost[i]);
            due("where page 0 ends", x.page(0, 3), i == 2 ? 0 : 1);
        }
        // Behind the CHANGE: 16, 9; within the ACTION: 10.
        ScriptDesk x = made(10, el(CHANGE, 6), el(ACTION, 8));
        due("an action behind 6", x.cost(), 10);
        pageIs(x, 0, 10, 0, 0, 1, 3);
        x = made(10, el(CHANGE, 7), el(ACTION, 8));
        due("an action behind 7", x.cost(), 9);
        pageIs(x, 0, 7, 0, 0, 0, 7);
        // Page 0 full leaves 1 + 16; a row less on it, and page 1 is better filled.
        says("The least COST of all PAGES, not of the first");
        x = made(10, el(CHANGE, 4), el(CHANGE, 4), el(CHANGE, 4), el(CHANGE, 10));
        due("4 + 4 and 4", x.cost(), 1 + 36);
        x = made(10, el(CHANGE, 5), el(CHANGE, 1), el(CHANGE, 2), el(CHANGE, 5), el(CHANGE, 10));
        // 5, 1, 2 are 10 rows, then 5: 25; 5, 1 are 7, then 2, 5 are 8: 9 + 4.
        due("not the fullest first", x.cost(), 13);
        due("page 0", x.page(0, 3), 1);
    }

    private static void likeCosts() {
        says("of like ones that which has the most ROWS of ELEMENTS on PAGE 0");
        ScriptDesk x = made(10, el(CHANGE, 6), el(CHANGE, 1), el(CHANGE, 6), el(CHANGE, 10));
        due("8 and 6, or 6 and 8", x.cost(), 20);
        pageIs(x, 0, 8, 0, 0, 1, 1);
        pageIs(x, 1, 6, 2, 0, 2, 6);
        says("then on PAGE 1, and so on");
        x = made(10, el(CHANGE, 10), el(CHANGE, 6), el(CHANGE, 1), el(CHANGE, 6), el(CHANGE, 10));
        pageIs(x, 0, 10, 0, 0, 0, 10);
        pageIs(x, 1, 8, 1, 0, 2, 1);
        pageIs(x, 2, 6, 3, 0, 3, 6);
        x = made(10, el(CHANGE, 10), el(CHANGE, 10), el(CHANGE, 6), el(CHANGE, 1), el(CHANGE, 6),
                el(CHANGE, 10));
        pageIs(x, 2, 8, 2, 0, 3, 1);
        pageIs(x, 3, 6, 4, 0, 4, 6);
        // Breaks behind 2 .. 10 rows are allowed: the last page costs nothing, however short.
        says("The least COST, though the last PAGE is short by it");
        x = made(10, el(ACTION, 12));
        due("an action of 12: 10 and 2", x.page(0, 4), 10);
        due("cost", x.cost(), 10);
    }

    private static void noPlaceAllowsIt() {
        says("There is none if no place allows it (then there are no PAGES)");
        ScriptDesk[] desks = {made(10, el(HEAD, 11)), made(10, el(HEAD, 5), el(HEAD, 5)),
            made(10, el(CHANGE, 10), el(ASIDE, 11)), made(10, el(NAME, 11), el(ACTION, 4)),
            made(10, el(ACTION, 9), el(HEAD, 9), el(CHANGE, 1))};
        for (ScriptDesk x : desks) {
            due("pages()", x.pages(), 0);
            due("cost()", x.cost(), NONE);
            due("page(0, 0)", x.page(0, 0), BAD);
            due("lock()", x.lock(), NO);
            due("count(4)", x.count(4), 0);
        }
        due("with a row more", desks[1].length(11) + desks[1].pages(), 11);
        due("lock()", desks[1].lock(), 1);
        due("and back", desks[0].length(11) + desks[0].length(10) + desks[0].pages(), 21);
    }

    private static void inOrder() {
        says("all is on PAGES in order, each with one ROW at least");
        ScriptDesk[] desks = {made(10, el(ACTION, 30), el(HEAD, 2), el(SPEECH, 30), el(CHANGE, 3)),
            desk(times(60, "x\n\n")), made(13, el(SPEECH, 40), el(ACTION, 27), el(NAME, 1)),
            deskOf(times(30, "INT. A\n\nx y\n\n"), 10)};
        for (ScriptDesk x : desks) {
            int element = 0;
            int row = 0;
            int rows = 0;
            for (int k = 0; k < x.pages(); k++) {
                due("page " + k + " begins", x.page(k, 1) * 1000 + x.page(k, 2), element * 1000 + row);
                element = x.page(k, 3);
                row = x.page(k, 4);
                due("page " + k + " has a row", x.page(k, 0) >= 1 ? 1 : 0, 1);
                due("and at most L", x.page(k, 0) <= x.count(5) ? 1 : 0, 1);
                rows += x.page(k, 0);
                if (row == x.element(element, 2)) {
                    element++;
                    row = 0;
                }
            }
            due("the last ends behind all", element, x.count(1));
            due("no page lacks all rows", rows >= x.count(3) ? 1 : 0, 1);
        }
    }

    private static void nothingStaysOfWhatWas() {
        says("what was goes: THE BREAKING is that of what was read last, by L as it is");
        for (int rows = 1; rows <= 16; rows++) {
            ScriptDesk x = deskOf("INT." + "X".repeat(40 * 16 - 4), 10);
            due("16 rows of a head", x.pages(), 0);
            put(x, rows(rows, 40));
            x.read();
            due("pages of " + rows, x.pages(), rows <= 10 ? 1 : 2);
            due("cost of " + rows, x.cost(), rows <= 10 ? 0 : rows == 11 ? 11 : 10);
            x.length(16);
            due("on 16", x.pages(), 1);
            x.length(10);
            due("and back", x.pages(), rows <= 10 ? 1 : 2);
        }
        ScriptDesk x = made(10, el(ACTION, 20), el(CHANGE, 10));
        due("pages", x.pages(), 3);
        x.read();
        due("nothing read", x.pages(), 0);
        due("cost", x.cost(), NONE);
        says("THE BREAKING behind a merge is that of what stands then");
        x = locked(10, el(ACTION, 20), el(CHANGE, 10));
        x.strike(0);
        x.merge();
        due("pages", x.pages(), 1);
        pageIs(x, 0, 10, 0, 0, 0, 10);
    }

    private static void manyRows() {
        says("THE BREAKING of many ROWS");
        for (int rows = 20; rows <= 40; rows++) {
            ScriptDesk x = made(20, el(CHANGE, 20), el(CHANGE, 20), el(CHANGE, 20), el(ACTION, rows),
                    el(CHANGE, 20), el(CHANGE, 20));
            due("rows", x.count(3), 100 + rows);
            // The action is alone on its pages: two that are as like as can be cost the least.
            int more = (rows + 1) / 2;
            int less = rows / 2;
            int cost = (20 - more) * (20 - more) + (20 - less) * (20 - less) + 10;
            due("pages with " + rows, x.pages(), rows == 20 ? 6 : 7);
            due("cost with " + rows, x.cost(), rows == 20 ? 0 : cost);
            due("page 3 ends with " + rows, x.page(3, 4), rows == 20 ? 20 : more);
        }
    }

    private static void pageCalls() {
        says("page: BAD: what; then NO: LOCKED; then BAD: there is no such PAGE");
        ScriptDesk x = made(10, el(CHANGE, 10), el(ACTION, 4));
        due("what -1", x.page(0, -1), BAD);
        due("what 7", x.page(0, 7), BAD);
        due("what 6", x.page(1, 6), 0);
        due("page -1", x.page(-1, 0), BAD);
        due("page 2", x.page(2, 0), BAD);
        for (int far : FAR) {
            due("what " + far, x.page(0, far), BAD);
            due("page " + far, x.page(far, 0), BAD);
        }
        x.lock();
        due("locked", x.page(0, 0), NO);
        due("locked, page 2", x.page(2, 0), NO);
        due("locked, page -1", x.page(-1, 6), NO);
        due("locked, what 7", x.page(0, 7), BAD);
        due("locked, what -1", x.page(0, -1), BAD);
        says("pages: How many PAGES THE BREAKING has (not LOCKED), or GROUPS");
        due("groups", x.pages(), 2);
        x.strike(0);
        x.strike(1);
        due("groups, all struck", x.pages(), 2);
        says("cost: as it is not LOCKED");
        due("locked", x.cost(), NONE);
        x.merge();
        due("no elements", x.cost(), NONE);
    }
}
