/** Section 4 of the document, sentence by sentence: SCENES, WHO, SPAN, EIGHTHS; count and digest. */
public final class ScenesTests extends Bench {
    public static void main(String[] args) {
        scenesBeginAtHeads();
        aheadOfTheFirst();
        headsStruck();
        asPiecesStand();
        spans();
        eighths();
        elementsOfAScene();
        whoIsInIt();
        eachTextOnce();
        whoIsStruck();
        parts();
        partsWhenLocked();
        sceneCalls();
        whoCalls();
        partsCalls();
        counts();
        digests();
        end();
    }

    // ------------------------------------------------------------ SCENES

    private static void scenesBeginAtHeads() {
        says("SCENES begin at HEADS, numbered from 0 on");
        due("new", new ScriptDesk().scenes(), 0);
        for (int kind = 0; kind < 6; kind++) {
            due("kind " + kind, made(10, el(kind, 1)).scenes(), kind == HEAD ? 1 : 0);
        }
        ScriptDesk x = made(10, el(HEAD, 1), el(HEAD, 1), el(ACTION, 1), el(HEAD, 2));
        due("scenes()", x.scenes(), 3);
        due("scene(0, 0)", x.scene(0, 0), 0);
        due("scene(1, 0)", x.scene(1, 0), 1);
        due("scene(2, 0)", x.scene(2, 0), 3);
        x = desk(times(60, "INT. A\n\n"));
        due("60 of them", x.scenes(), 60);
        sceneIs(x, 59, 59, 0, 2, 8 * 120 / 20 - 8 * 118 / 20, 1);
        due("scene(60, 0)", x.scene(60, 0), BAD);
        says("though THE BREAKING has no PAGES");
        x.length(10);
        due("pages()", x.pages(), 0);
        due("scenes()", x.scenes(), 60);
    }

    private static void aheadOfTheFirst() {
        says("what stands ahead of the first one is in none");
        ScriptDesk x = made(10, el(ACTION, 3), el(NAME, 1), el(HEAD, 1), el(ACTION, 2));
        due("scenes()", x.scenes(), 1);
        sceneIs(x, 0, 2, 0, 5, 4, 2);
        due("who(0, 0)", x.who(0, 0), NONE);
        due("parts(1)", x.parts(1), 0);
        x = made(10, el(ACTION, 3), el(NAME, 1));
        due("no head: scenes()", x.scenes(), 0);
        due("scene(0, 0)", x.scene(0, 0), BAD);
        due("who(0, 0)", x.who(0, 0), BAD);
    }

    private static void headsStruck() {
        says("HEADS that are not STRUCK");
        ScriptDesk x = locked(20, el(HEAD, 1), el(ACTION, 2), el(HEAD, 1), el(ACTION, 3));
        sceneIs(x, 0, 0, 0, 5, 2, 2);
        sceneIs(x, 1, 2, 0, 6, 2, 2);
        x.strike(2);
        due("the second struck", x.scenes(), 1);
        sceneIs(x, 0, 0, 0, 9, 3, 3);
        x.strike(0);
        due("both struck", x.scenes(), 0);
        due("scene(0, 0)", x.scene(0, 0), BAD);
        x = locked(20, el(HEAD, 1), el(ACTION, 2), el(HEAD, 1), el(ACTION, 3));
        x.strike(0);
        due("the first struck", x.scenes(), 1);
        sceneIs(x, 0, 2, 0, 6, 2, 2);
        says("STRUCK ELEMENTS are in no GROUP, and so in no SCENE");
        x.strike(3);
        sceneIs(x, 0, 2, 0, 2, 0, 1);
    }

    private static void asPiecesStand() {
        says("All is in order as GROUPS and PIECES stand (not LOCKED: as ELEMENTS are)");
        ScriptDesk x = locked(10, el(HEAD, 1), el(ACTION, 2), el(ACTION, 3), el(HEAD, 1));
        due("a head put in", insertRows(x, 1, HEAD, 2), 4);
        due("scenes()", x.scenes(), 3);
        sceneIs(x, 0, 0, 0, 5, 4, 2);
        sceneIs(x, 1, 4, 0, 7, 5, 2);
        sceneIs(x, 2, 3, 0, 2, 2, 1);
        x.merge();
        sceneIs(x, 1, 2, 0, 7, 5, 2);
        sceneIs(x, 2, 4, 0, 2, 2, 1);
        says("as GROUPS stand");
        x = locked(10, el(CHANGE, 10), el(HEAD, 2), el(CHANGE, 7), el(CHANGE, 10));
        due("groups", x.pages(), 3);
        due("a head in group 3", insertRows(x, 3, HEAD, 1), 4);
        due("a head in group 1", insertRows(x, 0, HEAD, 1), 5);
        due("scene 0", x.scene(0, 0), 5);
        due("scene 1", x.scene(1, 0), 1);
        due("scene 2", x.scene(2, 0), 4);
    }

    private static void spans() {
        says("ITS SPAN: ROWS of its ELEMENTS, and one empty ROW for each that is no ASIDE or SPEECH");
        for (int kind = 1; kind < 6; kind++) {
            int empty = kind == ASIDE || kind == SPEECH ? 0 : 1;
            ScriptDesk x = made(40, el(HEAD, 2), el(kind, 3), el(kind, 4));
            due("kind " + kind, x.scene(0, 2), 3 + 7 + 2 * empty);
        }
        due("a head alone", made(10, el(HEAD, 1)).scene(0, 2), 2);
        due("of three rows", made(10, el(HEAD, 3)).scene(0, 2), 4);
        says("SPAN of an ELEMENT that stands in three GROUPS: no (MORE), no (CONT), one empty ROW");
        ScriptDesk x = locked(10, el(HEAD, 1), el(SPEECH, 25), el(ACTION, 21));
        due("span", x.scene(0, 2), 2 + 25 + 22);
        due("elements", x.scene(0, 4), 3);
        x.merge();
        due("merged", x.scene(0, 2), 2 + 25 + 22);
    }

    private static void eighths() {
        says("EIGHTHS: 8 u by L, cut, less 8 t by L, cut");
        int[] lengths = {10, 16, 20, 40};
        int[][] want = {{1, 2, 1, 2, 2}, {1, 1, 1, 1, 1}, {0, 1, 1, 1, 1}, {0, 0, 1, 0, 1}};
        for (int i = 0; i < lengths.length; i++) {
            ScriptDesk x = desk(times(5, "INT. A\n\n"));
            x.length(lengths[i]);
            for (int s = 0; s < 5; s++) {
                due("L " + lengths[i] + ", scene " + s, x.scene(s, 3), want[i][s]);
            }
            ScriptDesk y = desk("x\n\n" + times(5, "INT. A\n\n"));
            y.length(lengths[i]);
            says("t: the SPANS of all SCENES before it, not what stands ahead of the first");
            for (int s = 0; s < 5; s++) {
                due("L " + lengths[i] + ", scene " + s, y.scene(s, 3), want[i][s]);
            }
            says("EIGHTHS: 8 u by L, cut, less 8 t by L, cut");
        }
        ScriptDesk x = made(40, el(HEAD, 30), el(ACTION, 8));
        due("a whole page", x.scene(0, 3), 8);
        x = made(40, el(HEAD, 30), el(ACTION, 7));
        due("a row less", x.scene(0, 3), 7);
        x.length(39);
        due("and L too", x.scene(0, 3), 8);
        says("EIGHTHS, as L is, LOCKED too");
        x = made(40, el(HEAD, 1), el(ACTION, 2));
        due("on 40", x.scene(0, 3), 1);
        x.length(10);
        due("on 10", x.scene(0, 3), 4);
        x.lock();
        due("locked", x.scene(0, 3), 4);
        insertRows(x, 1, ACTION, 4);
        due("with more in it", x.scene(0, 3), 8);
    }

    private static void elementsOfAScene() {
        says("scene: 4 how many ELEMENTS");
        ScriptDesk x = locked(10, el(HEAD, 1), el(SPEECH, 26), el(HEAD, 1));
        due("with its head, each once", x.scene(0, 4), 2);
        due("a head alone", x.scene(1, 4), 1);
        insertRows(x, 1, ACTION, 1);
        due("one more", x.scene(0, 4), 3);
        x.strike(1);
        due("one less", x.scene(0, 4), 2);
    }

    // ------------------------------------------------------------ WHO

    private static final String TWO = "INT. A\n\nBOB\nx\n\nANN\nx\n\nBOB\nx\n\nINT. B\n\nCY\nx\n\nANN\nx\n\n";

    private static void whoIsInIt() {
        says("WHO is in a SCENE: NAMES' WORDS, each text once, in order");
        ScriptDesk x = desk(TWO);
        due("scene 0", x.scene(0, 1), 2);
        due("who(0, 0)", x.who(0, 0), 1);
        due("who(0, 1)", x.who(0, 1), 3);
        due("who(0, 2)", x.who(0, 2), NONE);
        due("scene 1", x.scene(1, 1), 2);
        due("who(1, 0)", x.who(1, 0), 8);
        due("who(1, 1)", x.who(1, 1), 10);
        due("who(1, 2)", x.who(1, 2), NONE);
        says("NAMES: no other KIND");
        ScriptDesk y = lockedDesk("INT. A\n\nx", 40);
        for (int kind = 0; kind < 6; kind++) {
            put(y, "BOB");
            int number = y.insert(1, kind);
            due("kind " + kind, y.who(y.scenes() - 1, 0), kind == NAME ? number : NONE);
            y.strike(number);
        }
        says("nobody");
        due("a head alone", desk("INT. A").scene(0, 1), 0);
        due("who(0, 0)", desk("INT. A").who(0, 0), NONE);
    }

    private static ScriptDesk named(String... names) {
        ScriptDesk x = lockedDesk("INT. A", 40);
        int last = 0;
        for (String name : names) {
            put(x, name);
            last = x.insert(last, NAME);
        }
        return x;
    }

    private static void eachTextOnce() {
        says("NAMES' WORDS, each text once");
        due("alike", named("BOB", "BOB").scene(0, 1), 1);
        due("blanks between words are one", named("A B", "A    B").scene(0, 1), 1);
        due("10 is a blank", named("A B", "A\nB").scene(0, 1), 1);
        due("blanks around", named("  AB ", "AB").scene(0, 1), 1);
        due("one word or two", named("AB", "A B").scene(0, 1), 2);
        due("words in another order", named("A B", "B A").scene(0, 1), 2);
        due("the first byte", named("BOB", "ROB").scene(0, 1), 2);
        due("the last byte", named("BOB", "BOX").scene(0, 1), 2);
        due("one more byte", named("BOB", "BOBB").scene(0, 1), 2);
        due("one less", named("BOB", "BO").scene(0, 1), 2);
        due("capitals", named("BOB", "Bob").scene(0, 1), 2);
        due("rows cut otherwise", named("a".repeat(30), "a".repeat(24) + " " + "a".repeat(6))
                .scene(0, 1), 2);
        due("long ones alike", named("a".repeat(30), "a".repeat(30)).scene(0, 1), 1);
        ScriptDesk x = named("A", "B", "A", "C", "B", "D", "D", "A");
        int[] want = {1, 2, 4, 6, NONE};
        for (int i = 0; i < want.length; i++) {
            due("who(0, " + i + ")", x.who(0, i), want[i]);
        }
        due("how many", x.scene(0, 1), 4);
        says("as many NAMES as there may be beside a HEAD");
        String[] names = new String[59];
        for (int i = 0; i < 59; i++) {
            names[i] = "N" + i;
        }
        ScriptDesk y = named(names);
        due("how many", y.scene(0, 1), 59);
        due("the last", y.who(0, 58), 59);
        due("behind it", y.who(0, 59), NONE);
    }

    private static void whoIsStruck() {
        says("who: The ELEMENT by which the i-th of WHO is in a SCENE is told first");
        ScriptDesk x = lockedDesk(TWO, 40);
        x.strike(1);
        due("the first BOB struck: ANN", x.who(0, 0), 3);
        due("then the other BOB", x.who(0, 1), 5);
        x.strike(5);
        due("no BOB", x.scene(0, 1), 1);
        due("who(0, 1)", x.who(0, 1), NONE);
        put(x, "ANN");
        due("an ANN ahead", x.insert(0, NAME), 12);
        due("tells her first", x.who(0, 0), 12);
        due("once", x.scene(0, 1), 1);
        x.strike(7);
        due("the head struck: all are in one", x.scenes(), 1);
        due("ANN and CY", x.scene(0, 1), 2);
        due("CY", x.who(0, 1), 8);
    }

    // ------------------------------------------------------------ parts

    private static void parts() {
        says("parts: In how many SCENES somebody is, told by an ELEMENT (a NAME that is not STRUCK)");
        ScriptDesk x = desk(TWO);
        due("BOB, told first", x.parts(1), 1);
        due("BOB, told again", x.parts(5), 1);
        due("ANN", x.parts(3), 2);
        due("ANN, by the other", x.parts(10), 2);
        due("CY", x.parts(8), 1);
        x = desk("BOB\nx\n\n" + TWO);
        due("one ahead of all scenes", x.parts(0), 1);
        due("in none", desk("BOB\nx\n\nINT. A\n\nANN\nx").parts(0), 0);
        due("no scenes", desk("BOB\nx").parts(0), 0);
        x = desk(times(20, "INT. A\n\nBOB\nx\n\n"));
        due("20 of 20", x.parts(1), 20);
    }

    private static void partsWhenLocked() {
        says("parts, as it stands LOCKED");
        ScriptDesk x = lockedDesk(TWO, 40);
        x.strike(3);
        due("an ANN struck", x.parts(3), NO);
        due("the other", x.parts(10), 1);
        put(x, "BOB");
        int bob = x.insert(7, NAME);
        due("BOB in both", x.parts(1), 2);
        due("by the new one", x.parts(bob), 2);
        x.strike(7);
        due("in one scene now", x.parts(1), 1);
        x.strike(0);
        due("no scenes", x.parts(1), 0);
    }

    // ------------------------------------------------------------ the calls

    private static void sceneCalls() {
        says("scene: BAD");
        ScriptDesk x = desk(TWO);
        due("s -1", x.scene(-1, 0), BAD);
        due("s 2", x.scene(2, 0), BAD);
        due("what -1", x.scene(0, -1), BAD);
        due("what 4", x.scene(0, 4), 7);
        due("what 5", x.scene(0, 5), BAD);
        for (int far : FAR) {
            due("s " + far, x.scene(far, 0), BAD);
            due("what " + far, x.scene(0, far), BAD);
        }
    }

    private static void whoCalls() {
        says("who: NONE: not so many. BAD");
        ScriptDesk x = desk(TWO);
        due("s -1", x.who(-1, 0), BAD);
        due("s 2", x.who(2, 0), BAD);
        due("i -1", x.who(0, -1), BAD);
        for (int far : FAR) {
            due("s " + far, x.who(far, 0), BAD);
            due("i " + far, x.who(0, far), far < 0 ? BAD : NONE);
        }
        due("no such scene, and i beyond", x.who(2, 99), BAD);
    }

    private static void partsCalls() {
        says("parts: BAD; NO: it is none, or STRUCK");
        ScriptDesk x = made(40, el(HEAD, 1), el(CHANGE, 1), el(NAME, 1), el(ASIDE, 1), el(SPEECH, 1),
                el(ACTION, 1));
        for (int e = 0; e < 6; e++) {
            due("kind " + e, x.parts(e), e == NAME ? 1 : NO);
        }
        due("e -1", x.parts(-1), BAD);
        due("e 6", x.parts(6), BAD);
        for (int far : FAR) {
            due("e " + far, x.parts(far), BAD);
        }
        x.lock();
        x.strike(2);
        x.strike(5);
        due("struck", x.parts(2), NO);
        due("no name, and struck", x.parts(5), NO);
    }

    private static void counts() {
        says("count: 0 bytes of THE TAPE, 1 ELEMENTS, 2 STRUCK, 3 ROWS of those not, 4 LOCKED, 5 L");
        ScriptDesk x = made(11, el(CHANGE, 3), el(SPEECH, 4), el(HEAD, 2));
        countsAre(x, 0, 3, 0, 9, 0, 11);
        x.lock();
        countsAre(x, 0, 3, 0, 9, 1, 11);
        x.strike(1);
        put(x, "ab");
        countsAre(x, 2, 3, 1, 5, 1, 11);
        x.insert(0, ACTION);
        countsAre(x, 0, 4, 1, 6, 1, 11);
        x.strike(0);
        x.strike(2);
        x.strike(3);
        countsAre(x, 0, 4, 4, 0, 1, 11);
        x.merge();
        countsAre(x, 0, 0, 0, 0, 0, 11);
        says("count: BAD");
        due("what -1", x.count(-1), BAD);
        due("what 6", x.count(6), BAD);
        for (int far : FAR) {
            due("what " + far, x.count(far), BAD);
        }
    }

    private static void countsAre(ScriptDesk x, int... want) {
        for (int what = 0; what < want.length; what++) {
            due("count(" + what + ")", x.count(what), want[what]);
        }
    }

    // ------------------------------------------------------------ digest

    /** As the document tells it, by the other calls alone. */
    private static long digestByCalls(ScriptDesk x) {
        long h = 101;
        for (int what = 0; what <= 5; what++) {
            h = 31 * h + x.count(what);
        }
        for (int e = 0; e < x.count(1); e++) {
            for (int what = 0; what <= 3; what++) {
                h = 31 * h + x.element(e, what);
            }
            for (int row = 0; row < x.element(e, 2); row++) {
                for (int i = 0; x.rowByte(e, row, i) != NONE; i++) {
                    h = 31 * h + x.rowByte(e, row, i);
                }
            }
        }
        h = 31 * h + x.pages();
        if (x.count(4) == 0) {
            return 31 * h + x.cost();
        }
        for (int group = 1; group <= x.pages(); group++) {
            h = 31 * h + x.sheets(group);
            for (int s = 0; s < x.sheets(group); s++) {
                h = 31 * h + x.sheet(group, s, 0);
                h = 31 * h + x.sheet(group, s, 1);
            }
        }
        return h;
    }

    private static void digests() {
        says("digest: h = 101; then h = 31 h + v for each v");
        ScriptDesk x = new ScriptDesk();
        due("new", x.digest(), digestByCalls(x));
        put(x, TWO);
        due("fed", x.digest(), digestByCalls(x));
        x.read();
        due("read", x.digest(), digestByCalls(x));
        x.length(10);
        due("another length", x.digest(), digestByCalls(x));
        x.lock();
        due("locked", x.digest(), digestByCalls(x));
        x.strike(3);
        due("struck", x.digest(), digestByCalls(x));
        put(x, fewBytes(12, 28));
        x.insert(1, SPEECH);
        due("inserted", x.digest(), digestByCalls(x));
        for (int e = 0; e < x.count(1); e++) {
            x.strike(e);
        }
        due("all struck: groups without pieces", x.digest(), digestByCalls(x));
        x.merge();
        due("no elements", x.digest(), digestByCalls(x));
        x = made(10, el(HEAD, 11));
        due("no pages", x.digest(), digestByCalls(x));
        says("digest: long, with Java's wrap-around");
        x = fed("~".repeat(1200));
        x.read();
        due("1200 bytes", x.digest(), digestByCalls(x));
    }
}
