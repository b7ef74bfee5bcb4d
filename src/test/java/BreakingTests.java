import java.util.ArrayList;
import java.util.List;
import java.util.Random;

/**
 * THE BREAKING of short scripts drawn from a fixed seed, held against the best of all ways to break
 * them: each way is written down in full, and nothing is kept from one to the next.
 */
public final class BreakingTests extends Bench {
    private static final int SCRIPTS = 3000;
    private static final int MOST_ROWS = 26;

    private final int length;
    private final List<int[]> elements;
    /** Each ROW of ELEMENTS: its ELEMENT, and its number there. */
    private final List<int[]> rows = new ArrayList<>();

    private long leastCost;
    /** Behind which ROWS its PAGES end; null: there is no way. */
    private List<Integer> bestEnds;

    private BreakingTests(int length, List<int[]> elements) {
        this.length = length;
        this.elements = elements;
        for (int e = 0; e < elements.size(); e++) {
            for (int row = 0; row < elements.get(e)[1]; row++) {
                rows.add(new int[] {e, row});
            }
        }
    }

    public static void main(String[] args) {
        says("The least COST; of like ones that which has the most ROWS on PAGE 0, then on PAGE 1");
        Random random = new Random(11);
        int without = 0;
        int ofThreePages = 0;
        for (int i = 0; i < SCRIPTS; i++) {
            BreakingTests script = new BreakingTests(10 + random.nextInt(3), drawn(random));
            script.tryAllFrom(0, 0, new ArrayList<>());
            script.compare();
            without += script.bestEnds == null ? 1 : 0;
            ofThreePages += script.bestEnds != null && script.bestEnds.size() >= 3 ? 1 : 0;
        }
        System.out.println(without + " scripts without a way, " + ofThreePages + " of three pages or more");
        due("scripts of each sort were drawn", Math.min(without, ofThreePages) >= 100 ? 1 : 0, 1);
        end();
    }

    private static List<int[]> drawn(Random random) {
        List<int[]> elements = new ArrayList<>();
        int longest = random.nextInt(3) == 0 ? 12 : 5;
        int inAll = 0;
        for (int left = 1 + random.nextInt(9); left > 0; left--) {
            int kind = random.nextInt(3) == 0 ? random.nextInt(6) : SPEECH + random.nextInt(2);
            int rows = 1 + random.nextInt(longest);
            if (inAll + rows <= MOST_ROWS) {
                elements.add(el(kind, rows));
                inAll += rows;
            }
        }
        return elements;
    }

    private void compare() {
        ScriptDesk x = made(length, elements.toArray(new int[0][]));
        if (bestEnds == null) {
            due("pages()", x.pages(), 0);
            due("cost()", x.cost(), NONE);
            return;
        }
        due("pages()", x.pages(), bestEnds.size());
        due("cost()", x.cost(), leastCost);
        int from = 0;
        for (int page = 0; page < bestEnds.size(); page++) {
            int to = bestEnds.get(page);
            int[] first = rows.get(from);
            int[] last = rows.get(to - 1);
            due("page(" + page + ", 0)", x.page(page, 0), rowsOfPage(from, to));
            due("page(" + page + ", 1)", x.page(page, 1), first[0]);
            due("page(" + page + ", 2)", x.page(page, 2), first[1]);
            due("page(" + page + ", 3)", x.page(page, 3), last[0]);
            due("page(" + page + ", 4)", x.page(page, 4), last[1] + 1);
            due("page(" + page + ", 5)", x.page(page, 5), isWithin(from, SPEECH) ? 1 : 0);
            due("page(" + page + ", 6)", x.page(page, 6), isWithin(to, SPEECH) ? 1 : 0);
            from = to;
        }
    }

    private void tryAllFrom(int from, long cost, List<Integer> ends) {
        if (from == rows.size()) {
            keepIfBetter(cost, ends);
            return;
        }
        for (int to = from + 1; to <= rows.size(); to++) {
            int used = rowsOfPage(from, to);
            if (used <= length && mayEnd(from, to)) {
                ends.add(to);
                tryAllFrom(to, cost + costOfPage(to, used), ends);
                ends.remove(ends.size() - 1);
            }
        }
    }

    private void keepIfBetter(long cost, List<Integer> ends) {
        if (bestEnds == null || cost < leastCost || cost == leastCost && isFuller(ends)) {
            leastCost = cost;
            bestEnds = new ArrayList<>(ends);
        }
    }

    private boolean isFuller(List<Integer> ends) {
        for (int page = 0; page < Math.min(ends.size(), bestEnds.size()); page++) {
            int difference = ends.get(page) - bestEnds.get(page);
            if (difference != 0) {
                return difference > 0;
            }
        }
        return false;
    }

    private long costOfPage(int to, int used) {
        if (to == rows.size()) {
            return 0;
        }
        int within = isWithin(to, SPEECH) ? 30 : isWithin(to, ACTION) ? 10 : 0;
        return (long) (length - used) * (length - used) + within;
    }

    private int rowsOfPage(int from, int to) {
        int used = to - from;
        for (int i = from + 1; i < to; i++) {
            int kind = kindOf(i);
            used += rows.get(i)[1] == 0 && kind != ASIDE && kind != SPEECH ? 1 : 0;
        }
        return used + (isWithin(from, SPEECH) ? 1 : 0) + (isWithin(to, SPEECH) ? 1 : 0);
    }

    private boolean mayEnd(int from, int to) {
        int kind = kindOf(to - 1);
        if (to == rows.size()) {
            return true;
        }
        if (rows.get(to)[1] == 0) {
            return kind != HEAD && kind != NAME && kind != ASIDE;
        }
        int ahead = Math.min(rows.get(to)[1], to - from);
        int behind = elements.get(rows.get(to)[0])[1] - rows.get(to)[1];
        return (kind == SPEECH || kind == ACTION) && ahead >= 2 && behind >= 2;
    }

    private int kindOf(int row) {
        return elements.get(rows.get(row)[0])[0];
    }

    /** Whether the place ahead of this ROW is within an ELEMENT of a KIND. */
    private boolean isWithin(int row, int kind) {
        return row < rows.size() && rows.get(row)[1] > 0 && kindOf(row) == kind;
    }
}
