import java.util.ArrayList;
import java.util.Arrays;

/**
 * A writer's desk for screenplays: it reads a tape of bytes into elements, breaks them into pages
 * at the least cost, locks the pages, and tells who is in which scene.
 *
 * <p>The words in capitals are those of the document. Every call answers, whatever it is given.
 */
public final class ScriptDesk {
    public static final int NONE = -1, BAD = -2, NO = -3, FULL = -4;

    private static final int HEAD = 0, CHANGE = 1, NAME = 2, ASIDE = 3, SPEECH = 4, ACTION = 5;
    private static final int KINDS = 6;

    private static final int MOST_ELEMENTS = 60;
    private static final int MOST_SHEETS = 27;
    private static final int SHORTEST_PAGE = 10, LONGEST_PAGE = 40, FIRST_PAGE_LENGTH = 20;
    private static final int SHEETS_IN_A_NUMBER = 32;

    private final Tape tape;
    private final LineReader reader;
    private final ArrayList<Element> elements;
    private final ArrayList<Element> reordered;
    private final Element nobody;
    private final PieceRow standing;
    private final Breaking breaking;
    private final GroupLayout layout;
    private final SceneList sceneList;

    private int pageLength;
    private boolean locked;
    private int groups;

    public ScriptDesk() {
        tape = new Tape();
        reader = new LineReader(tape);
        elements = new ArrayList<>();
        reordered = new ArrayList<>();
        nobody = new Element(NONE, ACTION, tape, 0, 0);
        standing = new PieceRow(nobody);
        Leaf leaf = new Leaf(standing);
        breaking = new Breaking(standing, leaf);
        layout = new GroupLayout(standing, leaf);
        sceneList = new SceneList(standing);
        pageLength = FIRST_PAGE_LENGTH;
    }

    // ---------------------------------------------------------------- THE TAPE

    public int feed(long w, int n) {
        if (n < 1 || n > 8) {
            return BAD;
        }
        if (!tape.hasRoomFor(n)) {
            return FULL;
        }
        for (int i = n - 1; i >= 0; i--) {
            tape.put((int) (w >>> (8 * i)) & 255);
        }
        return tape.used();
    }

    public int cut(int n) {
        int had = tape.used();
        if (n < 0 || n > had) {
            return BAD;
        }
        tape.keep(n);
        return had - n;
    }

    public int read() {
        if (reader.countElements() > MOST_ELEMENTS) {
            return FULL;
        }
        elements.clear();
        reader.makeElements(elements);
        tape.keep(0);
        standUnlocked();
        return elements.size();
    }

    // ---------------------------------------------------------------- ELEMENTS

    public int length(int l) {
        if (l < SHORTEST_PAGE || l > LONGEST_PAGE) {
            return BAD;
        }
        if (locked) {
            return NO;
        }
        int was = pageLength;
        pageLength = l;
        breaking.forget();
        return was;
    }

    public int element(int e, int what) {
        if (!isElement(e)) {
            return BAD;
        }
        Element told = elementAt(e);
        switch (what) {
            case 0: return told.kind;
            case 1: return told.wordCount();
            case 2: return told.rowCount();
            case 3: return told.struck ? 1 : 0;
            default: return BAD;
        }
    }

    public int rowByte(int e, int row, int i) {
        if (!isElement(e) || i < 0) {
            return BAD;
        }
        Element told = elementAt(e);
        if (row < 0 || row >= told.rowCount()) {
            return BAD;
        }
        return i < told.rowLength(row) ? told.byteOfRow(row, i) : NONE;
    }

    // ---------------------------------------------------------------- PAGES

    public int pages() {
        if (locked) {
            return groups;
        }
        breaking.refresh(pageLength);
        return breaking.pageCount();
    }

    public int cost() {
        if (locked) {
            return NONE;
        }
        breaking.refresh(pageLength);
        return breaking.leastCost();
    }

    public int page(int page, int what) {
        if (what < 0 || what > 6) {
            return BAD;
        }
        if (locked) {
            return NO;
        }
        breaking.refresh(pageLength);
        if (page < 0 || page >= breaking.pageCount()) {
            return BAD;
        }
        breaking.turnTo(page);
        switch (what) {
            case 0: return breaking.rowsOfPage();
            case 1: return breaking.firstPiece();
            case 2: return breaking.firstRow();
            case 3: return breaking.lastPiece();
            case 4: return breaking.endRow();
            case 5: return breaking.beginsWithinSpeech() ? 1 : 0;
            default: return breaking.endsWithinSpeech() ? 1 : 0;
        }
    }

    // ---------------------------------------------------------------- LOCKED

    public int lock() {
        if (locked) {
            return NO;
        }
        breaking.refresh(pageLength);
        if (breaking.pageCount() == 0) {
            return NO;
        }
        standing.clear();
        for (int k = 0; k < breaking.pageCount(); k++) {
            breaking.turnTo(k);
            addPiecesOfPage(k + 1);
        }
        groups = breaking.pageCount();
        locked = true;
        return groups;
    }

    public int strike(int e) {
        if (!isElement(e)) {
            return BAD;
        }
        Element told = elementAt(e);
        if (!locked || told.struck) {
            return NO;
        }
        told.struck = true;
        standing.removePiecesOf(told);
        return 1;
    }

    public int insert(int e, int kind) {
        if (!isElement(e) || kind < 0 || kind >= KINDS) {
            return BAD;
        }
        Element ahead = elementAt(e);
        if (!locked || ahead.struck || !tape.hasWord()) {
            return NO;
        }
        if (elements.size() >= MOST_ELEMENTS) {
            return FULL;
        }
        Element fresh = new Element(elements.size(), kind, tape, 0, tape.used());
        int place = standing.lastPieceOf(ahead);
        int group = standing.at(place).group;
        standing.put(place + 1, fresh, 0, fresh.rowCount(), group);
        layout.lay(group, pageLength);
        if (layout.sheetCount() > MOST_SHEETS) {
            standing.removePiecesOf(fresh);
            return FULL;
        }
        elements.add(fresh);
        tape.keep(0);
        return fresh.number;
    }

    public int sheets(int group) {
        if (!locked) {
            return NO;
        }
        if (group < 1 || group > groups) {
            return BAD;
        }
        layout.lay(group, pageLength);
        return layout.sheetCount();
    }

    public int sheet(int group, int s, int what) {
        if (what < 0 || what > 3) {
            return BAD;
        }
        if (!locked) {
            return NO;
        }
        if (group < 1 || group > groups || s < 0) {
            return BAD;
        }
        layout.lay(group, pageLength);
        if (s >= layout.sheetCount()) {
            return BAD;
        }
        switch (what) {
            case 0: return layout.rowsOn(s);
            case 1: return layout.piecesOn(s);
            case 2: return layout.firstElementOn(s);
            default: return layout.lastElementOn(s);
        }
    }

    public int where(int e) {
        if (!isElement(e)) {
            return BAD;
        }
        if (!locked) {
            return NO;
        }
        Element told = elementAt(e);
        if (told.struck) {
            return NONE;
        }
        int piece = standing.firstPieceOf(told);
        int group = standing.at(piece).group;
        layout.lay(group, pageLength);
        return group * SHEETS_IN_A_NUMBER + layout.sheetWherePieceBegins(piece);
    }

    public int merge() {
        if (!locked) {
            return NO;
        }
        reordered.clear();
        for (int i = 0; i < standing.size(); i++) {
            if (standing.at(i).beginsElement()) {
                reordered.add(standing.at(i).element);
            }
        }
        elements.clear();
        for (int i = 0; i < reordered.size(); i++) {
            Element kept = reordered.get(i);
            kept.number = i;
            elements.add(kept);
        }
        reordered.clear();
        standUnlocked();
        return elements.size();
    }

    // ---------------------------------------------------------------- SCENES

    public int scenes() {
        return sceneList.sceneCount();
    }

    public int scene(int s, int what) {
        if (s < 0 || s >= sceneList.sceneCount()) {
            return BAD;
        }
        int from = sceneList.begin(s);
        int to = sceneList.begin(s + 1);
        switch (what) {
            case 0: return standing.at(from).element.number;
            case 1: return sceneList.peopleIn(from, to);
            case 2: return sceneList.spanOf(from, to);
            case 3: return eighthsOf(from, to);
            case 4: return sceneList.elementsIn(from, to);
            default: return BAD;
        }
    }

    public int who(int s, int i) {
        if (s < 0 || s >= sceneList.sceneCount() || i < 0) {
            return BAD;
        }
        return sceneList.personIn(sceneList.begin(s), sceneList.begin(s + 1), i);
    }

    public int parts(int e) {
        if (!isElement(e)) {
            return BAD;
        }
        Element told = elementAt(e);
        if (told.kind != NAME || told.struck) {
            return NO;
        }
        int found = 0;
        int scenesInAll = sceneList.sceneCount();
        for (int s = 0; s < scenesInAll; s++) {
            if (sceneList.hasPerson(sceneList.begin(s), sceneList.begin(s + 1), told)) {
                found++;
            }
        }
        return found;
    }

    // ---------------------------------------------------------------- ALL OF IT

    public int count(int what) {
        switch (what) {
            case 0: return tape.used();
            case 1: return elements.size();
            case 2: return struckElements();
            case 3: return rowsNotStruck();
            case 4: return locked ? 1 : 0;
            case 5: return pageLength;
            default: return BAD;
        }
    }

    public long digest() {
        long h = 101;
        for (int what = 0; what <= 5; what++) {
            h = 31 * h + count(what);
        }
        for (int e = 0; e < elements.size(); e++) {
            h = digestOfElement(h, e);
        }
        h = 31 * h + pages();
        if (!locked) {
            return 31 * h + cost();
        }
        for (int group = 1; group <= groups; group++) {
            h = digestOfGroup(h, group);
        }
        return h;
    }

    // ---------------------------------------------------------------- helpers

    private boolean isElement(int e) {
        return e >= 0 && e < elements.size();
    }

    private Element elementAt(int e) {
        return isElement(e) ? elements.get(e) : nobody;
    }

    private void standUnlocked() {
        locked = false;
        groups = 0;
        standing.clear();
        for (int e = 0; e < elements.size(); e++) {
            Element whole = elements.get(e);
            standing.put(standing.size(), whole, 0, whole.rowCount(), 0);
        }
        breaking.forget();
    }

    private void addPiecesOfPage(int group) {
        int first = breaking.firstPiece();
        int last = breaking.lastPiece();
        for (int e = first; e <= last && isElement(e); e++) {
            Element told = elementAt(e);
            int from = e == first ? breaking.firstRow() : 0;
            int to = e == last ? breaking.endRow() : told.rowCount();
            standing.put(standing.size(), told, from, to, group);
        }
    }

    // The eighths of scenes next to one another add up: each is the difference of two cut numbers.
    private int eighthsOf(int from, int to) {
        int before = sceneList.spanOf(sceneList.begin(0), from);
        int with = before + sceneList.spanOf(from, to);
        return eighthsOfRows(with) - eighthsOfRows(before);
    }

    private int eighthsOfRows(int rows) {
        return pageLength < SHORTEST_PAGE ? 0 : 8 * rows / pageLength;
    }

    private int struckElements() {
        int found = 0;
        for (int e = 0; e < elements.size(); e++) {
            if (elements.get(e).struck) {
                found++;
            }
        }
        return found;
    }

    private int rowsNotStruck() {
        int rows = 0;
        for (int e = 0; e < elements.size(); e++) {
            if (!elements.get(e).struck) {
                rows += elements.get(e).rowCount();
            }
        }
        return rows;
    }

    private long digestOfElement(long before, int e) {
        long h = before;
        for (int what = 0; what <= 3; what++) {
            h = 31 * h + element(e, what);
        }
        Element told = elementAt(e);
        for (int row = 0; row < told.rowCount(); row++) {
            for (int i = 0; i < told.rowLength(row); i++) {
                h = 31 * h + told.byteOfRow(row, i);
            }
        }
        return h;
    }

    private long digestOfGroup(long before, int group) {
        layout.lay(group, pageLength);
        long h = 31 * before + layout.sheetCount();
        for (int s = 0; s < layout.sheetCount(); s++) {
            h = 31 * h + layout.rowsOn(s);
            h = 31 * h + layout.piecesOn(s);
        }
        return h;
    }

    // ---------------------------------------------------------------- classes

    /** THE TAPE: the bytes that were fed and taken. */
    private static final class Tape {
        private static final int ROOM = 1200;
        private static final int LINE_END = 10, BLANK = 32, LAST_TAKEN = 126;

        private final byte[] bytes = new byte[ROOM];
        private int size;

        int used() {
            return size;
        }

        boolean hasRoomFor(int n) {
            return size <= ROOM - n;
        }

        void put(int b) {
            boolean taken = b == LINE_END || b >= BLANK && b <= LAST_TAKEN;
            if (taken && size < ROOM) {
                bytes[size] = (byte) b;
                size++;
            }
        }

        void keep(int n) {
            if (n >= 0 && n < size) {
                size = n;
            }
        }

        int at(int i) {
            return i >= 0 && i < size ? bytes[i] : LINE_END;
        }

        boolean isBlank(int i) {
            return at(i) == BLANK;
        }

        boolean isGap(int i) {
            return at(i) == BLANK || at(i) == LINE_END;
        }

        boolean hasWord() {
            for (int i = 0; i < size; i++) {
                if (!isGap(i)) {
                    return true;
                }
            }
            return false;
        }
    }

    /** Goes over THE TAPE, LINE by LINE, and tells the KIND of each. A BLANK one has KIND NONE. */
    private static final class LineReader {
        private static final int LONGEST_NAME = 24;

        private final Tape tape;
        private int next;
        private int from, to;
        private int kind, kindAhead;

        LineReader(Tape tape) {
            this.tape = tape;
        }

        int countElements() {
            int found = 0;
            rewind();
            for (int line = 0; line < Tape.ROOM && next < tape.used(); line++) {
                step();
                if (kind != NONE && !joinsLineAhead()) {
                    found++;
                }
            }
            return found;
        }

        void makeElements(ArrayList<Element> elements) {
            int openKind = NONE;
            int openFrom = 0;
            int openTo = 0;
            rewind();
            for (int line = 0; line < Tape.ROOM && next < tape.used(); line++) {
                step();
                if (!joinsLineAhead()) {
                    close(elements, openKind, openFrom, openTo);
                    openKind = kind;
                    openFrom = from;
                }
                openTo = to;
            }
            close(elements, openKind, openFrom, openTo);
        }

        private void close(ArrayList<Element> elements, int openKind, int openFrom, int openTo) {
            if (openKind != NONE) {
                elements.add(new Element(elements.size(), openKind, tape, openFrom, openTo));
            }
        }

        private void rewind() {
            next = 0;
            kind = NONE;
        }

        private void step() {
            kindAhead = kind;
            from = next;
            to = endOfLine(next);
            next = to + 1;
            for (int i = from; i < to && tape.isBlank(i); i++) {
                from = i + 1;
            }
            for (int i = to - 1; i >= from && tape.isBlank(i); i--) {
                to = i;
            }
            kind = kindOfLine();
        }

        private boolean joinsLineAhead() {
            return kind == kindAhead && (kind == SPEECH || kind == ACTION);
        }

        private int endOfLine(int start) {
            for (int i = start; i < tape.used(); i++) {
                if (tape.at(i) == Tape.LINE_END) {
                    return i;
                }
            }
            return tape.used();
        }

        private int kindOfLine() {
            if (from >= to) {
                return NONE;
            }
            if (kindAhead == NONE && isBig()) {
                if (beginsLikeHead()) {
                    return HEAD;
                }
                boolean freeBehind = isFreeBehind();
                if (freeBehind && tape.at(to - 1) == ':') {
                    return CHANGE;
                }
                if (!freeBehind && to - from <= LONGEST_NAME) {
                    return NAME;
                }
            }
            if (kindAhead == NAME || kindAhead == ASIDE || kindAhead == SPEECH) {
                boolean bracketed = tape.at(from) == '(' && tape.at(to - 1) == ')';
                return bracketed ? ASIDE : SPEECH;
            }
            return ACTION;
        }

        private boolean isBig() {
            boolean hasCapital = false;
            for (int i = from; i < to; i++) {
                int b = tape.at(i);
                if (b >= 'a' && b <= 'z') {
                    return false;
                }
                hasCapital = hasCapital || b >= 'A' && b <= 'Z';
            }
            return hasCapital;
        }

        private boolean beginsLikeHead() {
            return lineBeginsWith("INT.") || lineBeginsWith("EXT.");
        }

        private boolean lineBeginsWith(String text) {
            if (to - from < text.length()) {
                return false;
            }
            for (int i = 0; i < text.length(); i++) {
                if (tape.at(from + i) != text.charAt(i)) {
                    return false;
                }
            }
            return true;
        }

        private boolean isFreeBehind() {
            int end = endOfLine(next);
            for (int i = next; i < end; i++) {
                if (!tape.isBlank(i)) {
                    return false;
                }
            }
            return true;
        }
    }

    /** An ELEMENT: its WORDS with one blank between, and where each of its ROWS begins and ends. */
    private static final class Element {
        private static final int[] WIDTHS = {40, 40, 24, 20, 28, 40};
        private static final int NARROWEST = 20, WIDEST = 40;

        final int kind;
        int number;
        boolean struck;

        private final byte[] text;
        private int size;
        private int words;
        private final int[] rowFrom;
        private final int[] rowTo;
        private int rows;

        Element(int number, int kind, Tape tape, int from, int to) {
            this.number = number;
            this.kind = kind;
            text = new byte[Math.max(0, to - from)];
            takeWords(tape, from, to);
            // Two ROWS next to one another have a WIDTH of bytes at least: no more ROWS than this.
            int mostRows = 2 * (size / NARROWEST) + 1;
            rowFrom = new int[mostRows];
            rowTo = new int[mostRows];
            fillRows();
        }

        int wordCount() {
            return words;
        }

        int rowCount() {
            return rows;
        }

        int rowLength(int row) {
            return row >= 0 && row < rows ? rowTo[row] - rowFrom[row] : 0;
        }

        int byteOfRow(int row, int i) {
            return i >= 0 && i < rowLength(row) ? text[rowFrom[row] + i] : NONE;
        }

        boolean hasEmptyRowAhead() {
            return kind != ASIDE && kind != SPEECH;
        }

        boolean mayBreakWithin() {
            return kind == SPEECH || kind == ACTION;
        }

        boolean mayEndPage() {
            return kind != HEAD && kind != NAME && kind != ASIDE;
        }

        boolean isWithin(int row) {
            return row > 0 && row < rows;
        }

        boolean isWithinSpeech(int row) {
            return kind == SPEECH && isWithin(row);
        }

        boolean hasSameWords(Element other) {
            if (size != other.size) {
                return false;
            }
            for (int i = 0; i < size && i < text.length && i < other.text.length; i++) {
                if (text[i] != other.text[i]) {
                    return false;
                }
            }
            return true;
        }

        private int width() {
            return kind >= 0 && kind < WIDTHS.length ? WIDTHS[kind] : WIDEST;
        }

        private void takeWords(Tape tape, int from, int to) {
            boolean inWord = false;
            for (int i = from; i < to; i++) {
                boolean gap = tape.isGap(i);
                if (!gap && !inWord) {
                    words++;
                    if (words > 1) {
                        addToText(Tape.BLANK);
                    }
                }
                if (!gap) {
                    addToText(tape.at(i));
                }
                inWord = !gap;
            }
        }

        private void addToText(int b) {
            if (size < text.length) {
                text[size] = (byte) b;
                size++;
            }
        }

        private void fillRows() {
            int at = 0;
            for (int chunk = 0; chunk < size && at < size; chunk++) {
                int end = endOfChunk(at);
                putInRow(at, end);
                boolean blankBehind = end < size && text[end] == Tape.BLANK;
                at = blankBehind ? end + 1 : end;
            }
        }

        // A chunk is a WORD, or as much of a longer one as fills the WIDTH, or the rest of that.
        private int endOfChunk(int at) {
            int limit = Math.min(size, at + width());
            for (int i = at; i < limit; i++) {
                if (text[i] == Tape.BLANK) {
                    return i;
                }
            }
            return limit;
        }

        private void putInRow(int at, int end) {
            if (rows > 0 && rows <= rowTo.length && end - rowFrom[rows - 1] <= width()) {
                rowTo[rows - 1] = end;
            } else if (rows < rowFrom.length) {
                rowFrom[rows] = at;
                rowTo[rows] = end;
                rows++;
            }
        }
    }

    /** A PIECE: ROWS of an ELEMENT from one on up to another one, and the GROUP it is in. */
    private static final class Piece {
        Element element;
        int from, to;
        int group;

        Piece(Element element) {
            this.element = element;
        }

        boolean beginsElement() {
            return from == 0;
        }
    }

    /** All PIECES in order, GROUP by GROUP; while not LOCKED, each ELEMENT as one PIECE. */
    private static final class PieceRow {
        private final ArrayList<Piece> pieces = new ArrayList<>();
        // PIECES that were taken out are used again, so that locking often makes few objects.
        private final ArrayList<Piece> spare = new ArrayList<>();
        private final Piece nowhere;

        PieceRow(Element nobody) {
            nowhere = new Piece(nobody);
        }

        int size() {
            return pieces.size();
        }

        Piece at(int i) {
            return i >= 0 && i < pieces.size() ? pieces.get(i) : nowhere;
        }

        void clear() {
            for (int i = 0; i < pieces.size(); i++) {
                spare.add(pieces.get(i));
            }
            pieces.clear();
        }

        void put(int place, Element element, int from, int to, int group) {
            if (place < 0 || place > pieces.size()) {
                return;
            }
            Piece piece = spare.isEmpty() ? new Piece(element) : spare.remove(spare.size() - 1);
            piece.element = element;
            piece.from = from;
            piece.to = to;
            piece.group = group;
            pieces.add(place, piece);
        }

        void removePiecesOf(Element element) {
            for (int i = pieces.size() - 1; i >= 0; i--) {
                if (pieces.get(i).element == element) {
                    spare.add(pieces.remove(i));
                }
            }
        }

        int firstPieceOf(Element element) {
            for (int i = 0; i < pieces.size(); i++) {
                if (pieces.get(i).element == element) {
                    return i;
                }
            }
            return NONE;
        }

        int lastPieceOf(Element element) {
            for (int i = pieces.size() - 1; i >= 0; i--) {
                if (pieces.get(i).element == element) {
                    return i;
                }
            }
            return NONE;
        }

        /** The first PIECE that is in this GROUP or in one behind it. */
        int beginOfGroup(int group) {
            for (int i = 0; i < pieces.size(); i++) {
                if (pieces.get(i).group >= group) {
                    return i;
                }
            }
            return pieces.size();
        }
    }

    /**
     * A PAGE or SHEET in the making: begun at a ROW of a PIECE it takes ROW after ROW, and tells at
     * each place how many ROWS it would have, and whether it may end there.
     */
    private static final class Leaf {
        private static final int LEAST_ROWS_BESIDE_BREAK = 2;
        private static final int SPEECH_BREAK_COST = 30, ACTION_BREAK_COST = 10;

        private final PieceRow standing;
        private int end;
        private int firstPiece, firstRow;
        private int lastPiece, endRow;
        private int rows;

        Leaf(PieceRow standing) {
            this.standing = standing;
        }

        /** Begins at a ROW of a PIECE; PIECES from end on are out of reach. */
        void open(int piece, int row, int end) {
            this.end = end;
            firstPiece = piece;
            firstRow = row;
            lastPiece = piece;
            endRow = row;
            rows = standing.at(piece).element.isWithinSpeech(row) ? 1 : 0;
        }

        void takeRow() {
            if (isBehindAll()) {
                return;
            }
            if (endRow >= standing.at(lastPiece).to) {
                lastPiece++;
                Piece piece = standing.at(lastPiece);
                endRow = piece.from;
                if (piece.beginsElement() && piece.element.hasEmptyRowAhead()) {
                    rows++;
                }
            }
            endRow++;
            rows++;
        }

        boolean isBehindAll() {
            return lastPiece >= end - 1 && endRow >= standing.at(lastPiece).to;
        }

        int lastPiece() {
            return lastPiece;
        }

        int endRow() {
            return endRow;
        }

        // Never less than a ROW earlier: where a (MORE) goes away, the SPEECH's last ROW came.
        int rowsWithMore() {
            return standing.at(lastPiece).element.isWithinSpeech(endRow) ? rows + 1 : rows;
        }

        boolean mayEnd() {
            if (isBehindAll()) {
                return true;
            }
            Piece piece = standing.at(lastPiece);
            if (endRow >= piece.to) {
                return piece.element.mayEndPage();
            }
            int begun = lastPiece == firstPiece ? firstRow : piece.from;
            return piece.element.mayBreakWithin()
                    && endRow - begun >= LEAST_ROWS_BESIDE_BREAK
                    && piece.to - endRow >= LEAST_ROWS_BESIDE_BREAK;
        }

        int breakCost() {
            Element element = standing.at(lastPiece).element;
            if (!element.isWithin(endRow)) {
                return 0;
            }
            return element.kind == SPEECH ? SPEECH_BREAK_COST : ACTION_BREAK_COST;
        }
    }

    /**
     * THE BREAKING of whole ELEMENTS. A place is a number of ROWS of ELEMENTS ahead of it; for each
     * place, from the last one back, the least COST of all behind it is worked out.
     */
    private static final class Breaking {
        private static final int FIRST_ROOM = 128;

        private final PieceRow standing;
        private final Leaf leaf;
        private final int[] beginOfPiece = new int[MOST_ELEMENTS + 1];
        private int pieces;
        private int places;
        private int[] costFrom = new int[FIRST_ROOM];
        private int[] nextPlace = new int[FIRST_ROOM];
        private boolean known;
        private int pageCount;
        private int pageBegin, pageEnd;

        Breaking(PieceRow standing, Leaf leaf) {
            this.standing = standing;
            this.leaf = leaf;
        }

        void forget() {
            known = false;
        }

        void refresh(int pageLength) {
            if (known) {
                return;
            }
            numberPlaces();
            makeRoom();
            costFrom[places] = 0;
            nextPlace[places] = NONE;
            for (int piece = pieces - 1; piece >= 0; piece--) {
                for (int row = standing.at(piece).to - 1; row >= 0; row--) {
                    weigh(piece, row, pageLength);
                }
            }
            countPages();
            known = true;
        }

        int pageCount() {
            return pageCount;
        }

        int leastCost() {
            return pageCount == 0 ? NONE : costFrom[0];
        }

        /** The methods below tell of the PAGE turned to. */
        void turnTo(int page) {
            pageBegin = 0;
            for (int k = 0; k < page && k < pageCount; k++) {
                pageBegin = placeBehind(pageBegin);
            }
            pageEnd = placeBehind(pageBegin);
        }

        int rowsOfPage() {
            leaf.open(firstPiece(), firstRow(), pieces);
            for (int place = pageBegin; place < pageEnd; place++) {
                leaf.takeRow();
            }
            return leaf.rowsWithMore();
        }

        int firstPiece() {
            return pieceWithPlace(pageBegin);
        }

        int firstRow() {
            return pageBegin - beginOf(firstPiece());
        }

        int lastPiece() {
            return pieceWithPlace(pageEnd - 1);
        }

        int endRow() {
            return pageEnd - beginOf(lastPiece());
        }

        boolean beginsWithinSpeech() {
            return standing.at(firstPiece()).element.isWithinSpeech(firstRow());
        }

        boolean endsWithinSpeech() {
            return standing.at(lastPiece()).element.isWithinSpeech(endRow());
        }

        private void numberPlaces() {
            pieces = Math.min(standing.size(), MOST_ELEMENTS);
            places = 0;
            for (int i = 0; i < pieces; i++) {
                beginOfPiece[i] = places;
                places += standing.at(i).to;
            }
            beginOfPiece[pieces] = places;
        }

        private void makeRoom() {
            if (places >= costFrom.length) {
                costFrom = new int[2 * places];
                nextPlace = new int[2 * places];
            }
        }

        private void weigh(int piece, int row, int pageLength) {
            int place = beginOf(piece) + row;
            if (place < 0 || place >= places) {
                return;
            }
            costFrom[place] = NONE;
            nextPlace[place] = NONE;
            leaf.open(piece, row, pieces);
            for (int k = 0; k < pageLength && !leaf.isBehindAll(); k++) {
                leaf.takeRow();
                if (leaf.rowsWithMore() > pageLength) {
                    return;
                }
                if (leaf.mayEnd()) {
                    weighEnd(place, pageLength);
                }
            }
        }

        // Of like COSTS the later one is taken: it has more ROWS on the PAGE that begins here.
        private void weighEnd(int place, int pageLength) {
            int end = beginOf(leaf.lastPiece()) + leaf.endRow();
            if (end < 0 || end > places || costFrom[end] == NONE) {
                return;
            }
            int cost = 0;
            if (end < places) {
                int lacking = pageLength - leaf.rowsWithMore();
                cost = lacking * lacking + leaf.breakCost() + costFrom[end];
            }
            if (costFrom[place] == NONE || cost <= costFrom[place]) {
                costFrom[place] = cost;
                nextPlace[place] = end;
            }
        }

        private void countPages() {
            pageCount = 0;
            if (costFrom[0] == NONE) {
                return;
            }
            int place = 0;
            for (int k = 0; k < places && place < places; k++) {
                place = placeBehind(place);
                pageCount++;
            }
        }

        private int placeBehind(int place) {
            if (place < 0 || place >= places || nextPlace[place] == NONE) {
                return places;
            }
            return nextPlace[place];
        }

        private int beginOf(int piece) {
            return piece >= 0 && piece <= pieces ? beginOfPiece[piece] : places;
        }

        private int pieceWithPlace(int place) {
            for (int i = pieces - 1; i > 0; i--) {
                if (beginOfPiece[i] <= place) {
                    return i;
                }
            }
            return 0;
        }
    }

    /** The SHEETS of one GROUP: as many ROWS on each as may be. */
    private static final class GroupLayout {
        private final PieceRow standing;
        private final Leaf leaf;
        private int[] rows = new int[MOST_SHEETS + 1];
        private int[] first = new int[MOST_SHEETS + 1];
        private int[] last = new int[MOST_SHEETS + 1];
        private int sheetCount;
        private int end;
        private int markedPiece, markedRow, markedRows;

        GroupLayout(PieceRow standing, Leaf leaf) {
            this.standing = standing;
            this.leaf = leaf;
        }

        void lay(int group, int pageLength) {
            sheetCount = 0;
            int piece = standing.beginOfGroup(group);
            end = standing.beginOfGroup(group + 1);
            if (piece >= end) {
                addSheet(0, NONE, NONE);
                return;
            }
            int row = standing.at(piece).from;
            int most = rowsOfPieces(piece);
            for (int k = 0; k < most && piece < end; k++) {
                fillSheet(piece, row, pageLength);
                addSheet(markedRows, piece, markedPiece);
                boolean pieceIsOver = markedRow >= standing.at(markedPiece).to;
                piece = pieceIsOver ? markedPiece + 1 : markedPiece;
                row = pieceIsOver ? standing.at(piece).from : markedRow;
            }
        }

        int sheetCount() {
            return sheetCount;
        }

        int rowsOn(int s) {
            return isSheet(s) ? rows[s] : NONE;
        }

        int piecesOn(int s) {
            return isSheet(s) && first[s] != NONE ? last[s] - first[s] + 1 : 0;
        }

        int firstElementOn(int s) {
            return isSheet(s) ? standing.at(first[s]).element.number : NONE;
        }

        int lastElementOn(int s) {
            return isSheet(s) ? standing.at(last[s]).element.number : NONE;
        }

        int sheetWherePieceBegins(int piece) {
            for (int s = 0; s < sheetCount && s < last.length; s++) {
                if (last[s] >= piece) {
                    return s;
                }
            }
            return 0;
        }

        private boolean isSheet(int s) {
            return s >= 0 && s < sheetCount && s < rows.length;
        }

        private int rowsOfPieces(int from) {
            int found = 0;
            for (int i = from; i < end; i++) {
                found += standing.at(i).to - standing.at(i).from;
            }
            return found;
        }

        // Marks the last place that allows an end and has room; while there is none, any with room.
        private void fillSheet(int piece, int row, int pageLength) {
            boolean allowed = false;
            leaf.open(piece, row, end);
            for (int k = 0; k < pageLength && !leaf.isBehindAll(); k++) {
                leaf.takeRow();
                if (leaf.rowsWithMore() > pageLength) {
                    return;
                }
                boolean mayEnd = leaf.mayEnd();
                if (mayEnd || !allowed) {
                    markPlace();
                }
                allowed = allowed || mayEnd;
            }
        }

        private void markPlace() {
            markedPiece = leaf.lastPiece();
            markedRow = leaf.endRow();
            markedRows = leaf.rowsWithMore();
        }

        private void addSheet(int rowsOnIt, int firstPiece, int lastPiece) {
            if (sheetCount >= rows.length) {
                rows = Arrays.copyOf(rows, 2 * sheetCount);
                first = Arrays.copyOf(first, 2 * sheetCount);
                last = Arrays.copyOf(last, 2 * sheetCount);
            }
            if (sheetCount < rows.length) {
                rows[sheetCount] = rowsOnIt;
                first[sheetCount] = firstPiece;
                last[sheetCount] = lastPiece;
                sheetCount++;
            }
        }
    }

    /** SCENES, each told by the numbers of its first PIECE and of the one behind its last. */
    private static final class SceneList {
        private final PieceRow standing;

        SceneList(PieceRow standing) {
            this.standing = standing;
        }

        int sceneCount() {
            int found = 0;
            for (int i = 0; i < standing.size(); i++) {
                if (beginsElementOf(i, HEAD)) {
                    found++;
                }
            }
            return found;
        }

        /** The PIECE with which SCENE s begins; behind all, if there are not so many. */
        int begin(int s) {
            int ahead = 0;
            for (int i = 0; i < standing.size(); i++) {
                if (beginsElementOf(i, HEAD)) {
                    if (ahead == s) {
                        return i;
                    }
                    ahead++;
                }
            }
            return standing.size();
        }

        int elementsIn(int from, int to) {
            int found = 0;
            for (int i = from; i < to; i++) {
                if (standing.at(i).beginsElement()) {
                    found++;
                }
            }
            return found;
        }

        int spanOf(int from, int to) {
            int span = 0;
            for (int i = from; i < to; i++) {
                Piece piece = standing.at(i);
                span += piece.to - piece.from;
                if (piece.beginsElement() && piece.element.hasEmptyRowAhead()) {
                    span++;
                }
            }
            return span;
        }

        int peopleIn(int from, int to) {
            int found = 0;
            for (int i = from; i < to; i++) {
                if (tellsSomebodyNew(from, i)) {
                    found++;
                }
            }
            return found;
        }

        int personIn(int from, int to, int wanted) {
            int ahead = 0;
            for (int i = from; i < to; i++) {
                if (tellsSomebodyNew(from, i)) {
                    if (ahead == wanted) {
                        return standing.at(i).element.number;
                    }
                    ahead++;
                }
            }
            return NONE;
        }

        boolean hasPerson(int from, int to, Element name) {
            for (int i = from; i < to; i++) {
                if (beginsElementOf(i, NAME) && standing.at(i).element.hasSameWords(name)) {
                    return true;
                }
            }
            return false;
        }

        private boolean tellsSomebodyNew(int from, int i) {
            return beginsElementOf(i, NAME) && !hasPerson(from, i, standing.at(i).element);
        }

        private boolean beginsElementOf(int i, int kind) {
            Piece piece = standing.at(i);
            return piece.beginsElement() && piece.element.kind == kind;
        }
    }
}
