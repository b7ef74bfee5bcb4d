import java.util.ArrayList;
import java.util.Arrays;
import java.util.HashMap;
import java.util.LinkedHashSet;
import java.util.List;
import java.util.Map;
import java.util.Set;

/**
 * The document once more, in the slowest and plainest way: texts, lists, pages really written out
 * row by row, every place tried. ReferenceTests holds ScriptDesk against it.
 */
final class PlainDesk {
    static final int NONE = -1, BAD = -2, NO = -3, FULL = -4;
    private static final int[] WIDTH = {40, 40, 24, 20, 28, 40};

    static final class El {
        int kind;
        boolean struck;
        List<String> words = new ArrayList<>();
        List<String> rows = new ArrayList<>();

        El(int kind, String text) {
            this.kind = kind;
            for (String w : text.split("[ \n]+")) {
                if (!w.isEmpty()) {
                    words.add(w);
                }
            }
            List<String> small = new ArrayList<>();
            for (String w : words) {
                String rest = w;
                while (rest.length() > WIDTH[kind]) {
                    small.add(rest.substring(0, WIDTH[kind]));
                    rest = rest.substring(WIDTH[kind]);
                }
                small.add(rest);
            }
            String row = null;
            for (String w : small) {
                String longer = row == null ? w : row + " " + w;
                if (longer.length() <= WIDTH[kind]) {
                    row = longer;
                } else {
                    rows.add(row);
                    row = w;
                }
            }
            if (row != null) {
                rows.add(row);
            }
        }
    }

    static final class Pc {
        final El el;
        final int from, to;

        Pc(El el, int from, int to) {
            this.el = el;
            this.from = from;
            this.to = to;
        }
    }

    /** A breaking of all from some place on: its cost, and the places where its pages end. */
    private static final class Way {
        long cost;
        List<Integer> ends = new ArrayList<>();
    }

    private String tape = "";
    private List<El> els = new ArrayList<>();
    private List<List<Pc>> groups = new ArrayList<>();
    private boolean locked;
    private int pageLength = 20;
    private boolean wayKnown;
    private Way way;

    // ------------------------------------------------------------ tape and reading

    int feed(long w, int n) {
        if (n < 1 || n > 8) {
            return BAD;
        }
        if (tape.length() > 1200 - n) {
            return FULL;
        }
        for (int i = 0; i < n; i++) {
            int b = (int) ((w >> (8 * (n - 1 - i))) & 0xff);
            if (b == 10 || (b >= 32 && b <= 126)) {
                tape += (char) b;
            }
        }
        return tape.length();
    }

    int cut(int n) {
        if (n < 0 || n > tape.length()) {
            return BAD;
        }
        int went = tape.length() - n;
        tape = tape.substring(0, n);
        return went;
    }

    private static String bare(String line) {
        return line.replaceAll("^ +", "").replaceAll(" +$", "");
    }

    private List<El> parsed() {
        List<String> lines = new ArrayList<>(Arrays.asList(tape.split("\n", -1)));
        if (lines.get(lines.size() - 1).isEmpty()) {
            lines.remove(lines.size() - 1);
        }
        int n = lines.size();
        int[] kinds = new int[n];
        for (int i = 0; i < n; i++) {
            String line = bare(lines.get(i));
            boolean freeAhead = i == 0 || bare(lines.get(i - 1)).isEmpty();
            boolean freeBehind = i == n - 1 || bare(lines.get(i + 1)).isEmpty();
            boolean big = line.matches(".*[A-Z].*") && !line.matches(".*[a-z].*");
            boolean talk = i > 0 && kinds[i - 1] >= 2 && kinds[i - 1] <= 4;
            if (line.isEmpty()) {
                kinds[i] = NONE;
            } else if (big && line.matches("(INT|EXT)\\..*") && freeAhead) {
                kinds[i] = 0;
            } else if (big && line.endsWith(":") && freeAhead && freeBehind) {
                kinds[i] = 1;
            } else if (big && line.length() <= 24 && freeAhead && !freeBehind) {
                kinds[i] = 2;
            } else if (line.startsWith("(") && line.endsWith(")") && talk) {
                kinds[i] = 3;
            } else if (talk) {
                kinds[i] = 4;
            } else {
                kinds[i] = 5;
            }
        }
        List<El> made = new ArrayList<>();
        for (int i = 0; i < n; i++) {
            if (kinds[i] == NONE) {
                continue;
            }
            StringBuilder text = new StringBuilder(lines.get(i));
            int k = kinds[i];
            while (k >= 4 && i + 1 < n && kinds[i + 1] == k) {
                i++;
                text.append(' ').append(lines.get(i));
            }
            made.add(new El(k, text.toString()));
        }
        return made;
    }

    int read() {
        List<El> made = parsed();
        if (made.size() > 60) {
            return FULL;
        }
        els = made;
        tape = "";
        locked = false;
        groups = new ArrayList<>();
        wayKnown = false;
        return els.size();
    }

    int length(int l) {
        if (l < 10 || l > 40) {
            return BAD;
        }
        if (locked) {
            return NO;
        }
        int was = pageLength;
        pageLength = l;
        wayKnown = false;
        return was;
    }

    int element(int e, int what) {
        if (e < 0 || e >= els.size() || what < 0 || what > 3) {
            return BAD;
        }
        El el = els.get(e);
        return what == 0 ? el.kind : what == 1 ? el.words.size() : what == 2 ? el.rows.size()
                : el.struck ? 1 : 0;
    }

    int rowByte(int e, int row, int i) {
        if (e < 0 || e >= els.size() || row < 0 || row >= els.get(e).rows.size() || i < 0) {
            return BAD;
        }
        String text = els.get(e).rows.get(row);
        return i < text.length() ? text.charAt(i) : NONE;
    }

    // ------------------------------------------------------------ leaves, written out

    /** Each row of each piece: which piece, which row of its element. */
    private static List<int[]> unitsOf(List<Pc> pieces) {
        List<int[]> units = new ArrayList<>();
        for (int p = 0; p < pieces.size(); p++) {
            for (int r = pieces.get(p).from; r < pieces.get(p).to; r++) {
                units.add(new int[] {p, r});
            }
        }
        return units;
    }

    /** The leaf with the units from .. to (not with it), as it would be printed. */
    private static List<String> leaf(List<Pc> pieces, List<int[]> units, int from, int to) {
        List<String> printed = new ArrayList<>();
        int[] first = units.get(from);
        if (pieces.get(first[0]).el.kind == 4 && first[1] > 0) {
            printed.add("NAME (CONT)");
        }
        for (int u = from; u < to; u++) {
            El el = pieces.get(units.get(u)[0]).el;
            int row = units.get(u)[1];
            if (u > from && row == 0 && el.kind != 3 && el.kind != 4) {
                printed.add("");
            }
            printed.add(el.rows.get(row));
        }
        int[] last = units.get(to - 1);
        El el = pieces.get(last[0]).el;
        if (el.kind == 4 && last[1] + 1 < el.rows.size()) {
            printed.add("(MORE)");
        }
        return printed;
    }

    private static boolean allows(List<Pc> pieces, List<int[]> units, int from, int to) {
        if (to == units.size()) {
            return true;
        }
        int piece = units.get(to - 1)[0];
        int kind = pieces.get(piece).el.kind;
        if (units.get(to)[0] != piece) {
            return kind == 1 || kind == 4 || kind == 5;
        }
        if (kind != 4 && kind != 5) {
            return false;
        }
        int ahead = 0;
        for (int u = from; u < to; u++) {
            ahead += units.get(u)[0] == piece ? 1 : 0;
        }
        int behind = 0;
        for (int u = to; u < units.size(); u++) {
            behind += units.get(u)[0] == piece ? 1 : 0;
        }
        return ahead >= 2 && behind >= 2;
    }

    // ------------------------------------------------------------ the breaking

    private List<Pc> whole() {
        List<Pc> all = new ArrayList<>();
        for (El el : els) {
            all.add(new Pc(el, 0, el.rows.size()));
        }
        return all;
    }

    private static boolean better(Way a, Way b) {
        if (b == null || a.cost != b.cost) {
            return b == null || a.cost < b.cost;
        }
        for (int i = 0; i < a.ends.size() && i < b.ends.size(); i++) {
            if (!a.ends.get(i).equals(b.ends.get(i))) {
                return a.ends.get(i) > b.ends.get(i);
            }
        }
        return false;
    }

    private Way bestFrom(List<Pc> pieces, List<int[]> units, int from, Map<Integer, Way> known) {
        if (known.containsKey(from)) {
            return known.get(from);
        }
        Way best = null;
        for (int to = from + 1; to <= units.size() && to - from <= pageLength; to++) {
            int rows = leaf(pieces, units, from, to).size();
            if (rows > pageLength || !allows(pieces, units, from, to)) {
                continue;
            }
            Way way = new Way();
            if (to < units.size()) {
                Way rest = bestFrom(pieces, units, to, known);
                if (rest == null) {
                    continue;
                }
                int lack = pageLength - rows;
                way.cost = rest.cost + (long) lack * lack;
                if (units.get(to)[0] == units.get(to - 1)[0]) {
                    way.cost += pieces.get(units.get(to)[0]).el.kind == 4 ? 30 : 10;
                }
                way.ends.add(to);
                way.ends.addAll(rest.ends);
            } else {
                way.ends.add(to);
            }
            if (better(way, best)) {
                best = way;
            }
        }
        known.put(from, best);
        return best;
    }

    private Way theBreaking() {
        if (!wayKnown) {
            List<Pc> pieces = whole();
            way = els.isEmpty() ? null
                    : bestFrom(pieces, unitsOf(pieces), 0, new HashMap<>());
            wayKnown = true;
        }
        return way;
    }

    int pages() {
        if (locked) {
            return groups.size();
        }
        return theBreaking() == null ? 0 : theBreaking().ends.size();
    }

    int cost() {
        return locked || theBreaking() == null ? NONE : (int) theBreaking().cost;
    }

    int page(int page, int what) {
        if (what < 0 || what > 6) {
            return BAD;
        }
        if (locked) {
            return NO;
        }
        if (page < 0 || page >= pages()) {
            return BAD;
        }
        List<Pc> pieces = whole();
        List<int[]> units = unitsOf(pieces);
        int from = page == 0 ? 0 : theBreaking().ends.get(page - 1);
        int to = theBreaking().ends.get(page);
        List<String> printed = leaf(pieces, units, from, to);
        switch (what) {
            case 0: return printed.size();
            case 1: return units.get(from)[0];
            case 2: return units.get(from)[1];
            case 3: return units.get(to - 1)[0];
            case 4: return units.get(to - 1)[1] + 1;
            case 5: return printed.get(0).equals("NAME (CONT)") ? 1 : 0;
            default: return printed.get(printed.size() - 1).equals("(MORE)") ? 1 : 0;
        }
    }

    // ------------------------------------------------------------ locked

    int lock() {
        if (locked || pages() == 0) {
            return NO;
        }
        groups = new ArrayList<>();
        int pages = pages();
        for (int k = 0; k < pages; k++) {
            List<Pc> group = new ArrayList<>();
            for (int e = page(k, 1); e <= page(k, 3); e++) {
                int from = e == page(k, 1) ? page(k, 2) : 0;
                int to = e == page(k, 3) ? page(k, 4) : els.get(e).rows.size();
                group.add(new Pc(els.get(e), from, to));
            }
            groups.add(group);
        }
        locked = true;
        return pages;
    }

    int strike(int e) {
        if (e < 0 || e >= els.size()) {
            return BAD;
        }
        if (!locked || els.get(e).struck) {
            return NO;
        }
        El el = els.get(e);
        el.struck = true;
        for (List<Pc> group : groups) {
            group.removeIf(p -> p.el == el);
        }
        return 1;
    }

    int insert(int e, int kind) {
        if (e < 0 || e >= els.size() || kind < 0 || kind > 5) {
            return BAD;
        }
        if (!locked || els.get(e).struck || tape.replace('\n', ' ').trim().isEmpty()) {
            return NO;
        }
        if (els.size() == 60) {
            return FULL;
        }
        El fresh = new El(kind, tape);
        for (int g = groups.size() - 1; g >= 0; g--) {
            List<Pc> group = groups.get(g);
            for (int i = group.size() - 1; i >= 0; i--) {
                if (group.get(i).el == els.get(e)) {
                    List<Pc> tried = new ArrayList<>(group);
                    tried.add(i + 1, new Pc(fresh, 0, fresh.rows.size()));
                    if (laid(tried).size() > 27) {
                        return FULL;
                    }
                    groups.set(g, tried);
                    els.add(fresh);
                    tape = "";
                    return els.size() - 1;
                }
            }
        }
        throw new IllegalStateException("an element that stands nowhere");
    }

    /** The sheets of a group: each {from, to}, in units. */
    private List<int[]> laid(List<Pc> group) {
        List<int[]> units = unitsOf(group);
        List<int[]> sheets = new ArrayList<>();
        if (units.isEmpty()) {
            sheets.add(new int[] {0, 0});
        }
        int from = 0;
        while (from < units.size()) {
            int allowed = 0;
            int forced = 0;
            for (int to = units.size(); to > from; to--) {
                if (to - from > pageLength || leaf(group, units, from, to).size() > pageLength) {
                    continue;
                }
                forced = Math.max(forced, to);
                if (allows(group, units, from, to)) {
                    allowed = to;
                    break;
                }
            }
            int to = allowed > 0 ? allowed : forced;
            sheets.add(new int[] {from, to});
            from = to;
        }
        return sheets;
    }

    int sheets(int group) {
        if (!locked) {
            return NO;
        }
        if (group < 1 || group > groups.size()) {
            return BAD;
        }
        return laid(groups.get(group - 1)).size();
    }

    int sheet(int group, int s, int what) {
        if (what < 0 || what > 3) {
            return BAD;
        }
        if (!locked) {
            return NO;
        }
        if (group < 1 || group > groups.size()) {
            return BAD;
        }
        List<Pc> pieces = groups.get(group - 1);
        List<int[]> sheets = laid(pieces);
        if (s < 0 || s >= sheets.size()) {
            return BAD;
        }
        int from = sheets.get(s)[0];
        int to = sheets.get(s)[1];
        if (from == to) {
            return what < 2 ? 0 : NONE;
        }
        List<int[]> units = unitsOf(pieces);
        Set<Integer> on = new LinkedHashSet<>();
        for (int u = from; u < to; u++) {
            on.add(units.get(u)[0]);
        }
        switch (what) {
            case 0: return leaf(pieces, units, from, to).size();
            case 1: return on.size();
            case 2: return els.indexOf(pieces.get(units.get(from)[0]).el);
            default: return els.indexOf(pieces.get(units.get(to - 1)[0]).el);
        }
    }

    int where(int e) {
        if (e < 0 || e >= els.size()) {
            return BAD;
        }
        if (!locked) {
            return NO;
        }
        for (int g = 0; g < groups.size(); g++) {
            List<int[]> units = unitsOf(groups.get(g));
            for (int u = 0; u < units.size(); u++) {
                if (groups.get(g).get(units.get(u)[0]).el == els.get(e)) {
                    List<int[]> sheets = laid(groups.get(g));
                    for (int s = 0; s < sheets.size(); s++) {
                        if (u >= sheets.get(s)[0] && u < sheets.get(s)[1]) {
                            return (g + 1) * 32 + s;
                        }
                    }
                }
            }
        }
        return NONE;
    }

    private List<El> asTheyStand() {
        if (!locked) {
            return els;
        }
        Set<El> order = new LinkedHashSet<>();
        for (List<Pc> group : groups) {
            for (Pc p : group) {
                order.add(p.el);
            }
        }
        return new ArrayList<>(order);
    }

    int merge() {
        if (!locked) {
            return NO;
        }
        els = asTheyStand();
        locked = false;
        wayKnown = false;
        return els.size();
    }

    // ------------------------------------------------------------ scenes

    private List<List<El>> sceneLists() {
        List<List<El>> scenes = new ArrayList<>();
        for (El el : asTheyStand()) {
            if (el.kind == 0) {
                scenes.add(new ArrayList<>());
            }
            if (!scenes.isEmpty()) {
                scenes.get(scenes.size() - 1).add(el);
            }
        }
        return scenes;
    }

    private static Map<List<String>, El> people(List<El> scene) {
        Map<List<String>, El> found = new java.util.LinkedHashMap<>();
        for (El el : scene) {
            if (el.kind == 2) {
                found.putIfAbsent(el.words, el);
            }
        }
        return found;
    }

    private static int span(List<El> scene) {
        int span = 0;
        for (El el : scene) {
            span += el.rows.size() + (el.kind == 3 || el.kind == 4 ? 0 : 1);
        }
        return span;
    }

    int scenes() {
        return sceneLists().size();
    }

    int scene(int s, int what) {
        List<List<El>> scenes = sceneLists();
        if (s < 0 || s >= scenes.size() || what < 0 || what > 4) {
            return BAD;
        }
        int t = 0;
        for (int i = 0; i < s; i++) {
            t += span(scenes.get(i));
        }
        int u = t + span(scenes.get(s));
        switch (what) {
            case 0: return els.indexOf(scenes.get(s).get(0));
            case 1: return people(scenes.get(s)).size();
            case 2: return u - t;
            case 3: return 8 * u / pageLength - 8 * t / pageLength;
            default: return scenes.get(s).size();
        }
    }

    int who(int s, int i) {
        List<List<El>> scenes = sceneLists();
        if (s < 0 || s >= scenes.size() || i < 0) {
            return BAD;
        }
        List<El> found = new ArrayList<>(people(scenes.get(s)).values());
        return i < found.size() ? els.indexOf(found.get(i)) : NONE;
    }

    int parts(int e) {
        if (e < 0 || e >= els.size()) {
            return BAD;
        }
        if (els.get(e).kind != 2 || els.get(e).struck) {
            return NO;
        }
        int n = 0;
        for (List<El> scene : sceneLists()) {
            n += people(scene).containsKey(els.get(e).words) ? 1 : 0;
        }
        return n;
    }

    int count(int what) {
        int struck = 0;
        int rows = 0;
        for (El el : els) {
            struck += el.struck ? 1 : 0;
            rows += el.struck ? 0 : el.rows.size();
        }
        switch (what) {
            case 0: return tape.length();
            case 1: return els.size();
            case 2: return struck;
            case 3: return rows;
            case 4: return locked ? 1 : 0;
            case 5: return pageLength;
            default: return BAD;
        }
    }

    long digest() {
        List<Long> values = new ArrayList<>();
        for (int i = 0; i < 6; i++) {
            values.add((long) count(i));
        }
        for (int e = 0; e < els.size(); e++) {
            for (int i = 0; i < 4; i++) {
                values.add((long) element(e, i));
            }
            for (char c : String.join("", els.get(e).rows).toCharArray()) {
                values.add((long) c);
            }
        }
        values.add((long) pages());
        if (locked) {
            for (int g = 1; g <= groups.size(); g++) {
                values.add((long) sheets(g));
                for (int s = 0; s < sheets(g); s++) {
                    values.add((long) sheet(g, s, 0));
                    values.add((long) sheet(g, s, 1));
                }
            }
        } else {
            values.add((long) cost());
        }
        long h = 101;
        for (long v : values) {
            h = 31 * h + v;
        }
        return h;
    }

    String tapeText() {
        return tape;
    }

    boolean isLocked() {
        return locked;
    }
}
