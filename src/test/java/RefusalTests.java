import java.util.function.Supplier;
import java.util.function.ToLongFunction;

/**
 * "Refused, changing nothing, the first of: BAD -2 a number is not as told; NO -3 as told; FULL -4."
 * Each refused call is made on one of two desks that were made alike. All that can be seen of both
 * must be the same behind it, and once more when their TAPES are fed on and read.
 */
public final class RefusalTests extends Bench {
    public static void main(String[] args) {
        fresh();
        tapeAlone();
        tapeFull();
        readAndBroken();
        readWithoutPages();
        readTooMany();
        lockedAndTooMany();
        lockedWithNoneStruck();
        lockedWithStruck();
        lockedWithoutWords();
        lockedWithSixty();
        lockedWithAllSheets();
        lockedWithNothingLeft();
        lookingChangesNothing();
        end();
    }

    // ------------------------------------------------------------ twins

    private static Supplier<ScriptDesk> maker = ScriptDesk::new;

    private static void state(String told, Supplier<ScriptDesk> made) {
        says(told);
        maker = made;
    }

    private static void refused(String call, ToLongFunction<ScriptDesk> made, int want) {
        ScriptDesk x = maker.get();
        ScriptDesk twin = maker.get();
        due(call, made.applyAsLong(x), want);
        due(call + " again", made.applyAsLong(x), want);
        same("seen behind " + call, look(x), look(twin));
        same("the tape behind " + call, tapeRead(x), tapeRead(twin));
    }

    /** The TAPE can be seen only when it is read; if it is too much for that, a part of it. */
    private static String tapeRead(ScriptDesk x) {
        int fed = x.feed('q', 1);
        int read = x.read();
        if (read < 0) {
            x.cut(90);
            read = x.read();
        }
        return fed + " " + read + " " + look(x);
    }

    // ------------------------------------------------------------ refusals that are alike in many states

    private static void badFeeds() {
        for (int n : new int[] {0, 9, -1, Integer.MIN_VALUE, Integer.MAX_VALUE}) {
            refused("feed(65, " + n + ")", x -> x.feed(65, n), BAD);
        }
    }

    private static void badCuts(int has) {
        for (int n : new int[] {-1, has + 1, Integer.MIN_VALUE, Integer.MAX_VALUE}) {
            refused("cut(" + n + ")", x -> x.cut(n), BAD);
        }
    }

    private static void badLengths() {
        for (int l : new int[] {9, 41, 0, -1, Integer.MIN_VALUE, Integer.MAX_VALUE}) {
            refused("length(" + l + ")", x -> x.length(l), BAD);
        }
    }

    /** Numbers that are no ELEMENT, with all else as it should be or not. */
    private static void badElements(int has) {
        for (int e : new int[] {-1, has, Integer.MIN_VALUE, Integer.MAX_VALUE}) {
            refused("element(" + e + ", 0)", x -> x.element(e, 0), BAD);
            refused("element(" + e + ", 4)", x -> x.element(e, 4), BAD);
            refused("rowByte(" + e + ", 0, 0)", x -> x.rowByte(e, 0, 0), BAD);
            refused("strike(" + e + ")", x -> x.strike(e), BAD);
            refused("insert(" + e + ", 5)", x -> x.insert(e, 5), BAD);
            refused("insert(" + e + ", 6)", x -> x.insert(e, 6), BAD);
            refused("where(" + e + ")", x -> x.where(e), BAD);
            refused("parts(" + e + ")", x -> x.parts(e), BAD);
        }
    }

    private static void badWhats() {
        for (int far : FAR) {
            badWhat(far, far);
        }
        badWhat(-1, 0);
    }

    private static void badWhat(int what, int group) {
        refused("page(0, " + what + ")", x -> x.page(0, what), BAD);
        refused("page(99, " + what + ")", x -> x.page(99, what), BAD);
        refused("sheet(" + group + ", 0, " + what + ")", x -> x.sheet(group, 0, what), BAD);
        refused("sheet(1, 0, " + what + ")", x -> x.sheet(1, 0, what), BAD);
        refused("count(" + what + ")", x -> x.count(what), BAD);
        refused("scene(0, " + what + ")", x -> x.scene(0, what), BAD);
        refused("element(0, " + what + ")", x -> x.element(0, what), BAD);
    }

    private static void nextWhats() {
        refused("page(0, 7)", x -> x.page(0, 7), BAD);
        refused("page(-1, 7)", x -> x.page(-1, 7), BAD);
        refused("sheet(1, 0, 4)", x -> x.sheet(1, 0, 4), BAD);
        refused("sheet(-1, -1, 4)", x -> x.sheet(-1, -1, 4), BAD);
        refused("count(6)", x -> x.count(6), BAD);
        refused("scene(0, 5)", x -> x.scene(0, 5), BAD);
        refused("element(0, 4)", x -> x.element(0, 4), BAD);
    }

    private static void badScenes(int has) {
        for (int s : new int[] {-1, has, Integer.MIN_VALUE, Integer.MAX_VALUE}) {
            refused("scene(" + s + ", 0)", x -> x.scene(s, 0), BAD);
            refused("scene(" + s + ", 5)", x -> x.scene(s, 5), BAD);
            refused("who(" + s + ", 0)", x -> x.who(s, 0), BAD);
            refused("who(" + s + ", -1)", x -> x.who(s, -1), BAD);
        }
    }

    private static void badPages(int has) {
        for (int page : new int[] {-1, has, Integer.MIN_VALUE, Integer.MAX_VALUE}) {
            refused("page(" + page + ", 0)", x -> x.page(page, 0), BAD);
            refused("page(" + page + ", 6)", x -> x.page(page, 6), BAD);
        }
    }

    private static void badGroups(int has) {
        for (int g : new int[] {0, -1, has + 1, Integer.MIN_VALUE, Integer.MAX_VALUE}) {
            refused("sheets(" + g + ")", x -> x.sheets(g), BAD);
            refused("sheet(" + g + ", 0, 0)", x -> x.sheet(g, 0, 0), BAD);
            refused("sheet(" + g + ", -1, 3)", x -> x.sheet(g, -1, 3), BAD);
        }
    }

    private static void badSheets(int group, int has) {
        for (int s : new int[] {-1, has, Integer.MIN_VALUE, Integer.MAX_VALUE}) {
            refused("sheet(" + group + ", " + s + ", 0)", x -> x.sheet(group, s, 0), BAD);
        }
    }

    private static void notLocked() {
        refused("merge()", x -> x.merge(), NO);
        for (int g : new int[] {0, 1, -1, 99, Integer.MAX_VALUE}) {
            refused("sheets(" + g + ")", x -> x.sheets(g), NO);
            refused("sheet(" + g + ", 0, 0)", x -> x.sheet(g, 0, 0), NO);
            refused("sheet(1, " + g + ", 3)", x -> x.sheet(1, g, 3), NO);
        }
    }

    /** What a LOCKED desk refuses with NO, whatever else is in it. */
    private static void isLocked() {
        refused("lock()", x -> x.lock(), NO);
        for (int l : new int[] {10, 20, 40}) {
            refused("length(" + l + ")", x -> x.length(l), NO);
        }
        for (int page : new int[] {0, 1, -1, 99, Integer.MIN_VALUE}) {
            refused("page(" + page + ", 0)", x -> x.page(page, 0), NO);
            refused("page(" + page + ", 6)", x -> x.page(page, 6), NO);
        }
    }

    private static void alike(int tape, int elements, int scenes) {
        badFeeds();
        badCuts(tape);
        badLengths();
        badElements(elements);
        badWhats();
        nextWhats();
        badScenes(scenes);
    }

    // ------------------------------------------------------------ states

    private static void fresh() {
        state("refused: a new object", ScriptDesk::new);
        alike(0, 0, 0);
        badPages(0);
        notLocked();
        refused("lock()", x -> x.lock(), NO);
        refused("strike(0)", x -> x.strike(0), BAD);
        refused("where(0)", x -> x.where(0), BAD);
    }

    private static void tapeAlone() {
        state("refused: a tape, but no elements", () -> fed("INT. A\n\n  BOB\nhi there  "));
        alike(24, 0, 0);
        badPages(0);
        notLocked();
        refused("lock()", x -> x.lock(), NO);
        refused("insert(0, 5)", x -> x.insert(0, 5), BAD);
    }

    private static void tapeFull() {
        state("refused: a full tape", () -> fed(times(20, "INT. A\n\nBOB\nx\n" + "y".repeat(46))));
        badFeeds();
        for (int n = 1; n <= 8; n++) {
            int bytes = n;
            refused("feed(65, " + n + ")", x -> x.feed(65, bytes), FULL);
            refused("feed(0, " + n + ")", x -> x.feed(0, bytes), FULL);
        }
        badCuts(1200);
        for (int n = 2; n <= 8; n++) {
            int bytes = n;
            state("refused: a byte too few", () -> fed("z ".repeat(600).substring(0, 1201 - bytes)));
            refused("feed(65, " + n + ")", x -> x.feed(65, bytes), FULL);
            badCuts(1201 - n);
        }
    }

    private static final String PLAY = "INT. A\n\nBOB\n(low)\nhi you\n\nCUT TO:\n\nEXT. B\n\nhe goes\n\n";

    private static ScriptDesk play(int length) {
        ScriptDesk x = deskOf(PLAY, length);
        put(x, " left  on\n the tape");
        return x;
    }

    private static void readAndBroken() {
        state("refused: not locked", () -> play(20));
        alike(19, 7, 2);
        badPages(1);
        notLocked();
        for (int e = 0; e < 7; e++) {
            int told = e;
            refused("strike(" + e + ")", x -> x.strike(told), NO);
            refused("where(" + e + ")", x -> x.where(told), NO);
            refused("insert(" + e + ", 5)", x -> x.insert(told, 5), NO);
            refused("insert(" + e + ", 6)", x -> x.insert(told, 6), BAD);
            refused("insert(" + e + ", -1)", x -> x.insert(told, -1), BAD);
            if (e != 1) {
                refused("parts(" + e + ")", x -> x.parts(told), NO);
            }
            refused("rowByte(" + e + ", 1, 0)", x -> x.rowByte(told, 1, 0), BAD);
            refused("rowByte(" + e + ", -1, 0)", x -> x.rowByte(told, -1, 0), BAD);
            refused("rowByte(" + e + ", 0, -1)", x -> x.rowByte(told, 0, -1), BAD);
        }
        refused("who(0, -1)", x -> x.who(0, -1), BAD);
        state("refused: not locked, two pages", () -> play(10));
        badPages(2);
        notLocked();
    }

    private static void readWithoutPages() {
        state("refused: elements, but no pages", () -> {
            ScriptDesk x = made(10, el(HEAD, 5), el(HEAD, 5), el(NAME, 1));
            put(x, "left");
            return x;
        });
        alike(4, 3, 2);
        badPages(0);
        notLocked();
        refused("lock()", x -> x.lock(), NO);
        refused("strike(0)", x -> x.strike(0), NO);
        refused("insert(0, 5)", x -> x.insert(0, 5), NO);
        refused("where(0)", x -> x.where(0), NO);
    }

    private static void readTooMany() {
        state("refused: a tape of 61 elements, not locked", () -> {
            ScriptDesk x = deskOf(PLAY, 10);
            put(x, times(61, "yy\n\n"));
            return x;
        });
        refused("read()", x -> x.read(), FULL);
        state("refused: a tape of 61 elements, none was read", () -> fed(times(61, "yy\n\n")));
        refused("read()", x -> x.read(), FULL);
        state("refused: a tape of 400 elements, 60 were read", () -> {
            ScriptDesk x = desk(times(60, "x\n\n"));
            put(x, times(400, "y\n\n"));
            return x;
        });
        refused("read()", x -> x.read(), FULL);
    }

    private static void lockedAndTooMany() {
        state("refused: a tape of 61 elements, locked, one struck", () -> {
            ScriptDesk x = lockedDesk(PLAY, 10);
            x.strike(2);
            put(x, times(61, "yy\n\n"));
            return x;
        });
        refused("read()", x -> x.read(), FULL);
    }

    private static ScriptDesk lockedPlay(int length) {
        ScriptDesk x = play(length);
        x.lock();
        return x;
    }

    private static void lockedWithNoneStruck() {
        state("refused: locked", () -> lockedPlay(10));
        alike(19, 7, 2);
        isLocked();
        badGroups(2);
        badSheets(1, 1);
        badSheets(2, 1);
        for (int kind : new int[] {-1, 6, Integer.MIN_VALUE, Integer.MAX_VALUE}) {
            refused("insert(0, " + kind + ")", x -> x.insert(0, kind), BAD);
        }
        refused("parts(0)", x -> x.parts(0), NO);
    }

    private static void lockedWithStruck() {
        state("refused: locked, some struck", () -> {
            ScriptDesk x = lockedPlay(10);
            x.strike(1);
            x.strike(4);
            x.strike(5);
            return x;
        });
        alike(19, 7, 1);
        isLocked();
        badGroups(2);
        for (int e : new int[] {1, 4, 5}) {
            refused("strike(" + e + ")", x -> x.strike(e), NO);
            refused("insert(" + e + ", 5)", x -> x.insert(e, 5), NO);
            refused("insert(" + e + ", 6)", x -> x.insert(e, 6), BAD);
            refused("insert(" + e + ", -1)", x -> x.insert(e, -1), BAD);
            refused("parts(" + e + ")", x -> x.parts(e), NO);
            refused("where(" + e + ")", x -> x.where(e), NONE);
        }
    }

    private static void lockedWithoutWords() {
        for (String tape : new String[] {"", " ", "\n", "  \n \n\n   "}) {
            state("refused: locked, no word on the tape", () -> {
                ScriptDesk x = lockedPlay(10);
                x.cut(0);
                put(x, tape);
                return x;
            });
            for (int kind = 0; kind < 6; kind++) {
                int told = kind;
                refused("insert(0, " + kind + ")", x -> x.insert(0, told), NO);
            }
            refused("insert(0, 6)", x -> x.insert(0, 6), BAD);
            refused("insert(7, 5)", x -> x.insert(7, 5), BAD);
        }
    }

    /** LOCKED, 60 ELEMENTS, the last one inserted, element 7 STRUCK. */
    private static ScriptDesk sixty(String tape) {
        ScriptDesk x = lockedDesk(times(59, "x\n\n"), 40);
        put(x, "y");
        x.insert(3, 5);
        x.strike(7);
        put(x, tape);
        return x;
    }

    private static void lockedWithSixty() {
        state("refused: locked, 60 elements", () -> sixty("w v"));
        for (int e : new int[] {0, 3, 58, 59}) {
            for (int kind = 0; kind < 6; kind++) {
                int told = kind;
                refused("insert(" + e + ", " + kind + ")", x -> x.insert(e, told), FULL);
            }
        }
        refused("NO ahead of FULL: insert(7, 5)", x -> x.insert(7, 5), NO);
        refused("BAD ahead of FULL: insert(60, 5)", x -> x.insert(60, 5), BAD);
        refused("BAD ahead of FULL: insert(0, 6)", x -> x.insert(0, 6), BAD);
        refused("BAD ahead of NO and FULL: insert(7, 6)", x -> x.insert(7, 6), BAD);
        state("refused: locked, 60 elements, no word", () -> sixty("  \n"));
        refused("NO ahead of FULL: insert(0, 5)", x -> x.insert(0, 5), NO);
        refused("BAD ahead of all: insert(60, 5)", x -> x.insert(60, 5), BAD);
    }

    /** LOCKED, group 1 with 27 SHEETS, group 2 with one; an ELEMENT of group 1 is STRUCK. */
    private static ScriptDesk allSheets(String tape) {
        ScriptDesk x = locked(10, el(CHANGE, 10), el(CHANGE, 10));
        for (int i = 0; i < 13; i++) {
            insertRows(x, 0, ASIDE, 10);
            insertRows(x, 0, CHANGE, 1);
        }
        insertRows(x, 27, CHANGE, 1);
        x.strike(28);
        put(x, tape);
        return x;
    }

    private static void lockedWithAllSheets() {
        state("refused: locked, 27 sheets", () -> allSheets(fewBytes(10, 20)));
        due("sheets(1)", maker.get().sheets(1), 27);
        for (int e : new int[] {0, 2, 5, 26}) {
            refused("insert(" + e + ", 3)", x -> x.insert(e, 3), FULL);
        }
        badSheets(1, 27);
        badSheets(2, 1);
        refused("NO ahead of FULL: insert(28, 3)", x -> x.insert(28, 3), NO);
        refused("BAD ahead of FULL: insert(29, 3)", x -> x.insert(29, 3), BAD);
        refused("BAD ahead of FULL: insert(0, 6)", x -> x.insert(0, 6), BAD);
        refused("BAD ahead of NO: insert(28, 6)", x -> x.insert(28, 6), BAD);
        due("not refused in group 2", maker.get().insert(1, 3), 29);
    }

    private static void lockedWithNothingLeft() {
        state("refused: locked, all struck", () -> {
            ScriptDesk x = lockedPlay(10);
            for (int e = 0; e < 7; e++) {
                x.strike(e);
            }
            return x;
        });
        alike(19, 7, 0);
        isLocked();
        badGroups(2);
        badSheets(1, 1);
        badSheets(2, 1);
        for (int e = 0; e < 7; e++) {
            int told = e;
            refused("strike(" + e + ")", x -> x.strike(told), NO);
            refused("insert(" + e + ", 5)", x -> x.insert(told, 5), NO);
            refused("parts(" + e + ")", x -> x.parts(told), NO);
            refused("where(" + e + ")", x -> x.where(told), NONE);
        }
    }

    // ------------------------------------------------------------ calls that only look

    private static void lookingChangesNothing() {
        says("calls that tell of something change nothing");
        ScriptDesk[] desks = {new ScriptDesk(), fed(PLAY), play(10), play(20), lockedPlay(10),
            sixty("w"), made(10, el(HEAD, 11))};
        ScriptDesk[] twins = {new ScriptDesk(), fed(PLAY), play(10), play(20), lockedPlay(10),
            sixty("w"), made(10, el(HEAD, 11))};
        for (int i = 0; i < desks.length; i++) {
            String seen = look(desks[i]);
            same("looked at twice", look(desks[i]), seen);
            same("not looked at before", tapeRead(twins[i]), tapeRead(desks[i]));
        }
    }
}
