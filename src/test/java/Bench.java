import java.util.ArrayList;
import java.util.List;

/**
 * What the tests share: each answer is held against the one that is due, and desks are made whose
 * ELEMENTS have told KINDS and ROWS. A test extends it and ends with end().
 */
class Bench {
    static final int HEAD = 0, CHANGE = 1, NAME = 2, ASIDE = 3, SPEECH = 4, ACTION = 5;
    static final int NONE = -1, BAD = -2, NO = -3, FULL = -4;
    static final int[] WIDTHS = {40, 40, 24, 20, 28, 40};
    static final int[] FAR = {Integer.MIN_VALUE, -1000, 1000, Integer.MAX_VALUE};

    private static int wrong = 0;
    private static int held = 0;
    private static String sentence = "";

    /** The sentence of the document that the answers below hold to. */
    static void says(String words) {
        sentence = words;
    }

    static void due(String what, long got, long want) {
        held++;
        if (got != want) {
            wrong++;
            System.out.println("[" + sentence + "] " + what + " answered " + got + ", due is " + want);
        }
    }

    static void same(String what, String got, String want) {
        held++;
        if (!got.equals(want)) {
            wrong++;
            System.out.println("[" + sentence + "] " + what + ":\n  " + got + "\n  due is\n  " + want);
        }
    }

    static void end() {
        System.out.println(wrong == 0 ? "all " + held + " answers are as due"
                : wrong + " answers of " + held + " are not as due");
        if (wrong != 0 || held == 0) {
            System.exit(1);
        }
    }

    // ------------------------------------------------------------ desks

    static int put(ScriptDesk x, String text) {
        int answer = x.count(0);
        for (int at = 0; at < text.length(); at += 8) {
            int n = Math.min(8, text.length() - at);
            long w = 0;
            for (int i = 0; i < n; i++) {
                w = w << 8 | text.charAt(at + i);
            }
            answer = x.feed(w, n);
        }
        return answer;
    }

    static ScriptDesk fed(String text) {
        ScriptDesk x = new ScriptDesk();
        put(x, text);
        return x;
    }

    static ScriptDesk desk(String text) {
        ScriptDesk x = fed(text);
        x.read();
        return x;
    }

    static ScriptDesk deskOf(String text, int length) {
        ScriptDesk x = desk(text);
        x.length(length);
        return x;
    }

    static ScriptDesk lockedDesk(String text, int length) {
        ScriptDesk x = deskOf(text, length);
        x.lock();
        return x;
    }

    /** KIND and ROWS of an ELEMENT, for made and locked. */
    static int[] el(int kind, int rows) {
        return new int[] {kind, rows};
    }

    /** Not LOCKED, with ELEMENTS of any KINDS in any order: inserted behind one that is struck. */
    static ScriptDesk made(int length, int[]... elements) {
        ScriptDesk x = lockedDesk("x", 40);
        int last = 0;
        for (int[] told : elements) {
            last = insertRows(x, last, told[0], told[1]);
        }
        x.strike(0);
        if (x.merge() != elements.length) {
            throw new IllegalStateException("the bench made another number of elements");
        }
        x.length(length);
        return x;
    }

    static ScriptDesk locked(int length, int[]... elements) {
        ScriptDesk x = made(length, elements);
        if (x.lock() < 1) {
            throw new IllegalStateException("the bench could not lock");
        }
        return x;
    }

    /** Its number; the text has just so many ROWS. */
    static int insertRows(ScriptDesk x, int e, int kind, int rows) {
        put(x, fewBytes(rows, WIDTHS[kind]));
        int number = x.insert(e, kind);
        if (number >= 0 && x.element(number, 2) != rows) {
            throw new IllegalStateException("the bench made another number of rows");
        }
        return number;
    }

    // ------------------------------------------------------------ texts

    /** So many ROWS with as few bytes as can be: a full one, and one with a byte that has no room. */
    static String fewBytes(int rows, int width) {
        List<String> words = new ArrayList<>();
        for (int i = 0; i < rows; i++) {
            words.add(i % 2 == 0 ? "b".repeat(width) : "a");
        }
        return String.join(" ", words);
    }

    /** So many ROWS, each filled by one WORD. */
    static String rows(int rows, int width) {
        return String.join(" ", java.util.Collections.nCopies(rows, "x".repeat(width)));
    }

    static String action(int rows) {
        return rows(rows, 40) + "\n\n";
    }

    static String change(int rows) {
        return "X".repeat(40 * rows - 1) + ":\n\n";
    }

    static String talk(int rows) {
        return "BOB\n" + rows(rows, 28) + "\n\n";
    }

    static String times(int n, String text) {
        return text.repeat(n);
    }

    // ------------------------------------------------------------ what is due of many calls

    static void kinds(String text, int... want) {
        ScriptDesk x = fed(text);
        String shown = text.replace('\n', '|');
        due("read() of " + shown, x.read(), want.length);
        for (int e = 0; e < want.length; e++) {
            due("element(" + e + ", 0) of " + shown, x.element(e, 0), want[e]);
        }
    }

    static void row(ScriptDesk x, int e, int row, String want) {
        for (int i = 0; i < want.length(); i++) {
            due("rowByte(" + e + ", " + row + ", " + i + ")", x.rowByte(e, row, i), want.charAt(i));
        }
        due("rowByte behind row " + row + " of " + e, x.rowByte(e, row, want.length()), NONE);
    }

    /** All ROWS of an ELEMENT. */
    static void rowsAre(ScriptDesk x, int e, String... want) {
        due("element(" + e + ", 2)", x.element(e, 2), want.length);
        for (int r = 0; r < want.length; r++) {
            row(x, e, r, want[r]);
        }
        due("rowByte(" + e + ", " + want.length + ", 0)", x.rowByte(e, want.length, 0), BAD);
    }

    static void pageIs(ScriptDesk x, int page, int... want) {
        for (int what = 0; what < want.length; what++) {
            due("page(" + page + ", " + what + ")", x.page(page, what), want[what]);
        }
    }

    static void sheetIs(ScriptDesk x, int group, int s, int... want) {
        for (int what = 0; what < want.length; what++) {
            due("sheet(" + group + ", " + s + ", " + what + ")", x.sheet(group, s, what), want[what]);
        }
    }

    /** ROWS of all SHEETS of a GROUP. */
    static void sheetRows(ScriptDesk x, int group, int... want) {
        due("sheets(" + group + ")", x.sheets(group), want.length);
        for (int s = 0; s < want.length; s++) {
            due("sheet(" + group + ", " + s + ", 0)", x.sheet(group, s, 0), want[s]);
        }
        due("sheet(" + group + ", " + want.length + ", 0)", x.sheet(group, want.length, 0), BAD);
    }

    static void sceneIs(ScriptDesk x, int s, int... want) {
        for (int what = 0; what < want.length; what++) {
            due("scene(" + s + ", " + what + ")", x.scene(s, what), want[what]);
        }
    }

    // ------------------------------------------------------------ all that can be seen

    /** Every answer that looks at a desk without changing it. */
    static String look(ScriptDesk x) {
        StringBuilder seen = new StringBuilder();
        seen.append("digest ").append(x.digest());
        for (int what = 0; what <= 5; what++) {
            seen.append(" c").append(x.count(what));
        }
        for (int e = 0; e < x.count(1); e++) {
            lookAtElement(x, e, seen);
        }
        seen.append(" pages ").append(x.pages()).append(" cost ").append(x.cost());
        for (int k = 0; k < x.pages(); k++) {
            for (int what = 0; what <= 6; what++) {
                seen.append(' ').append(x.page(k, what));
            }
            lookAtGroup(x, k + 1, seen);
        }
        seen.append(" scenes ").append(x.scenes());
        for (int s = 0; s < x.scenes(); s++) {
            lookAtScene(x, s, seen);
        }
        return seen.toString();
    }

    private static void lookAtElement(ScriptDesk x, int e, StringBuilder seen) {
        seen.append(" e").append(e);
        for (int what = 0; what <= 3; what++) {
            seen.append(' ').append(x.element(e, what));
        }
        seen.append(" at ").append(x.where(e)).append(" in ").append(x.parts(e)).append(" '");
        for (int row = 0; row < x.element(e, 2); row++) {
            for (int i = 0; x.rowByte(e, row, i) >= 0; i++) {
                seen.append((char) x.rowByte(e, row, i));
            }
            seen.append('|');
        }
        seen.append('\'');
    }

    private static void lookAtGroup(ScriptDesk x, int group, StringBuilder seen) {
        seen.append(" g").append(group).append(' ').append(x.sheets(group));
        for (int s = 0; s < x.sheets(group); s++) {
            for (int what = 0; what <= 3; what++) {
                seen.append(' ').append(x.sheet(group, s, what));
            }
        }
    }

    private static void lookAtScene(ScriptDesk x, int s, StringBuilder seen) {
        seen.append(" s").append(s);
        for (int what = 0; what <= 4; what++) {
            seen.append(' ').append(x.scene(s, what));
        }
        for (int i = 0; x.who(s, i) >= 0; i++) {
            seen.append(" w").append(x.who(s, i));
        }
    }
}
