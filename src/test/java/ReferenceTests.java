import java.util.ArrayList;
import java.util.List;
import java.util.Random;

/**
 * Runs of calls drawn from fixed seeds, each answered by ScriptDesk and by PlainDesk; what differs
 * is printed, with the calls that led there.
 */
public final class ReferenceTests {
    private static final int RUNS = 700;
    private static final String[] NAMES = {"BOB", "ANNA", "THE OLD MAN", "A  B", "A B", "GUARD 2"};

    private final Random random;
    private final ScriptDesk desk = new ScriptDesk();
    private final PlainDesk plain = new PlainDesk();
    private final List<String> told = new ArrayList<>();
    private boolean wrong;

    private ReferenceTests(long seed) {
        random = new Random(seed);
    }

    public static void main(String[] args) {
        int runs = args.length > 0 ? Integer.parseInt(args[0]) : RUNS;
        int failed = 0;
        int[] seen = new int[6];
        for (int seed = 1; seed <= runs && failed < 5; seed++) {
            ReferenceTests run = new ReferenceTests(seed);
            run.play(seen);
            if (run.wrong) {
                failed++;
                System.out.println("seed " + seed + ":");
                for (String call : run.told) {
                    System.out.println("  " + call);
                }
            }
        }
        String[] what = {"runs with two pages or more", "runs without a breaking",
            "speeches broken", "groups with two sheets or more", "inserts FULL", "reads FULL"};
        for (int i = 0; i < seen.length; i++) {
            System.out.println(what[i] + ": " + seen[i]);
            if (runs >= RUNS && seen[i] == 0) {
                System.out.println("the runs are too tame");
                failed++;
            }
        }
        System.out.println(failed == 0 ? "all runs are alike" : failed + " runs differ");
        if (failed != 0) {
            System.exit(1);
        }
    }

    private void play(int[] seen) {
        int calls = 60 + random.nextInt(300);
        if (random.nextInt(3) == 0) {
            playLocked(seen);
        }
        while (told.size() < calls && !wrong) {
            step(seen);
        }
        if (!wrong) {
            lookAtAll(seen);
        }
    }

    /** Locked for long, with so many inserts that the sheets, or the elements, run out. */
    private void playLocked(int[] seen) {
        feedText(script(), 30 + random.nextInt(400));
        check("read()", desk.read(), plain.read());
        int l = random.nextInt(3) == 0 ? 10 + random.nextInt(31) : 10;
        check("length(" + l + ")", desk.length(l), plain.length(l));
        check("lock()", desk.lock(), plain.lock());
        boolean small = random.nextInt(3) == 0;
        for (int i = 0; i < 65 && !wrong; i++) {
            if (small) {
                feedText(random.nextInt(5) == 0 ? speech(9) : word(), 60);
            } else {
                feedText(random.nextInt(3) == 0 ? longWords() : speech(90), 200);
            }
            int e = small ? anElement() : random.nextInt(2);
            int kind = random.nextInt(6);
            long answer = check("insert(" + e + ", " + kind + ")", desk.insert(e, kind),
                    plain.insert(e, kind));
            seen[4] += answer == PlainDesk.FULL ? 1 : 0;
            if (random.nextInt(9) == 0) {
                int gone = anElement();
                check("strike(" + gone + ")", desk.strike(gone), plain.strike(gone));
            }
            if (random.nextInt(9) == 0) {
                lookAtAll(seen);
            }
        }
    }

    private void step(int[] seen) {
        int dice = random.nextInt(100);
        if (dice < 8 && !plain.isLocked()) {
            feedText(script(), 40 + random.nextInt(1161));
            if (check("read()", desk.read(), plain.read()) == PlainDesk.FULL) {
                seen[5]++;
            }
        } else if (dice < 10) {
            feedText(script(), 300);
        } else if (dice < 12) {
            check("read()", desk.read(), plain.read());
        } else if (dice < 20) {
            int l = random.nextInt(10) == 0 ? random.nextInt(60) - 5 : 10 + random.nextInt(31);
            l = random.nextInt(3) == 0 ? 10 : l;
            check("length(" + l + ")", desk.length(l), plain.length(l));
        } else if (dice < 27) {
            check("lock()", desk.lock(), plain.lock());
        } else if (dice < 31) {
            int e = anElement();
            check("strike(" + e + ")", desk.strike(e), plain.strike(e));
        } else if (dice < 43) {
            insertSomething(seen);
        } else if (dice < 45) {
            check("merge()", desk.merge(), plain.merge());
        } else if (dice < 48) {
            lookAtAll(seen);
        } else {
            lookSomewhere();
        }
    }

    private void insertSomething(int[] seen) {
        if (!plain.isLocked() && random.nextInt(4) != 0) {
            return;
        }
        String text = random.nextInt(3) == 0 ? longWords() : speech(1 + random.nextInt(60));
        text = random.nextInt(4) == 0 ? NAMES[random.nextInt(NAMES.length)] : text;
        text = random.nextInt(12) == 0 ? "  \n " : text;
        feedText(text, random.nextInt(4) == 0 ? 600 : 200);
        int e = random.nextInt(3) == 0 ? anElement() : random.nextInt(3);
        int kind = random.nextInt(20) == 0 ? random.nextInt(12) - 3 : random.nextInt(6);
        if (check("insert(" + e + ", " + kind + ")", desk.insert(e, kind), plain.insert(e, kind))
                == PlainDesk.FULL) {
            seen[4]++;
        }
        if (random.nextInt(4) == 0) {
            int n = random.nextInt(plain.count(0) + 2);
            check("cut(" + n + ")", desk.cut(n), plain.cut(n));
        }
    }

    private int anElement() {
        return random.nextInt(10) == 0 ? random.nextInt(80) - 4
                : random.nextInt(Math.max(1, plain.count(1)));
    }

    private void lookSomewhere() {
        int a = random.nextInt(5) == 0 ? random.nextInt(70) - 4 : random.nextInt(6);
        int b = random.nextInt(9) - 1;
        int c = random.nextInt(6) - 1;
        switch (random.nextInt(16)) {
            case 0: check("element" + list(a, b), desk.element(a, b), plain.element(a, b)); break;
            case 1: check("rowByte" + list(a, b, c), desk.rowByte(a, b, c), plain.rowByte(a, b, c)); break;
            case 2: check("pages()", desk.pages(), plain.pages()); break;
            case 3: check("cost()", desk.cost(), plain.cost()); break;
            case 4: check("page" + list(a, b), desk.page(a, b), plain.page(a, b)); break;
            case 5: check("sheets" + list(a), desk.sheets(a), plain.sheets(a)); break;
            case 6: check("sheet" + list(a, b, c), desk.sheet(a, b, c), plain.sheet(a, b, c)); break;
            case 7: check("where" + list(a), desk.where(a), plain.where(a)); break;
            case 8: check("scenes()", desk.scenes(), plain.scenes()); break;
            case 9: check("scene" + list(a, b), desk.scene(a, b), plain.scene(a, b)); break;
            case 10: check("who" + list(a, b), desk.who(a, b), plain.who(a, b)); break;
            case 11: check("parts" + list(a), desk.parts(a), plain.parts(a)); break;
            case 12: check("count" + list(b), desk.count(b), plain.count(b)); break;
            case 13: check("digest()", desk.digest(), plain.digest()); break;
            case 14: check("cut" + list(a), desk.cut(a), plain.cut(a)); break;
            default: oddFeed();
        }
    }

    private void oddFeed() {
        long w = random.nextLong();
        int n = random.nextInt(11) - 1;
        check("feed(" + w + "L, " + n + ")", desk.feed(w, n), plain.feed(w, n));
    }

    private static String list(int... numbers) {
        StringBuilder text = new StringBuilder("(");
        for (int i = 0; i < numbers.length; i++) {
            text.append(i == 0 ? "" : ", ").append(numbers[i]);
        }
        return text.append(")").toString();
    }

    private void lookAtAll(int[] seen) {
        int pages = (int) check("pages()", desk.pages(), plain.pages());
        seen[0] += pages > 1 ? 1 : 0;
        seen[1] += pages == 0 && plain.count(1) > 0 ? 1 : 0;
        check("cost()", desk.cost(), plain.cost());
        for (int p = 0; p <= pages; p++) {
            for (int what = 0; what <= 6; what++) {
                long got = check("page" + list(p, what), desk.page(p, what), plain.page(p, what));
                seen[2] += what == 6 && got == 1 ? 1 : 0;
            }
        }
        for (int e = 0; e <= plain.count(1); e++) {
            check("where" + list(e), desk.where(e), plain.where(e));
            check("parts" + list(e), desk.parts(e), plain.parts(e));
        }
        for (int g = 0; g <= pages + 1; g++) {
            int sheets = (int) check("sheets" + list(g), desk.sheets(g), plain.sheets(g));
            seen[3] += sheets > 1 ? 1 : 0;
            for (int s = 0; s <= sheets; s++) {
                for (int what = 0; what <= 3; what++) {
                    check("sheet" + list(g, s, what), desk.sheet(g, s, what),
                            plain.sheet(g, s, what));
                }
            }
        }
        int scenes = (int) check("scenes()", desk.scenes(), plain.scenes());
        for (int s = 0; s <= scenes; s++) {
            for (int what = 0; what <= 5; what++) {
                check("scene" + list(s, what), desk.scene(s, what), plain.scene(s, what));
            }
            for (int i = 0; i < 6; i++) {
                check("who" + list(s, i), desk.who(s, i), plain.who(s, i));
            }
        }
        check("digest()", desk.digest(), plain.digest());
    }

    private long check(String call, long got, long want) {
        if (wrong) {
            return want;
        }
        told.add(call + " = " + got);
        if (got != want) {
            wrong = true;
            told.add("^ due is " + want);
        }
        return want;
    }

    // ------------------------------------------------------------ texts

    private void feedText(String text, int most) {
        int end = Math.min(text.length(), most);
        for (int at = 0; at < end; at += 8) {
            int n = Math.min(8, end - at);
            long w = 0;
            for (int i = 0; i < n; i++) {
                w = w << 8 | text.charAt(at + i);
            }
            check("feed(" + w + "L, " + n + ")", desk.feed(w, n), plain.feed(w, n));
        }
    }

    private String word() {
        int size = random.nextInt(8) == 0 ? 1 + random.nextInt(16) : 1 + random.nextInt(7);
        StringBuilder word = new StringBuilder();
        for (int i = 0; i < size; i++) {
            word.append((char) ('a' + random.nextInt(26)));
        }
        return word.toString();
    }

    private String speech(int words) {
        StringBuilder text = new StringBuilder();
        for (int i = 0; i < words; i++) {
            int gap = random.nextInt(12);
            text.append(i == 0 ? "" : gap == 0 ? "  " : gap == 1 ? "\n" : " ").append(word());
        }
        return text.toString();
    }

    private String longWords() {
        StringBuilder text = new StringBuilder();
        int words = 1 + random.nextInt(14);
        for (int i = 0; i < words; i++) {
            int size = 1 + random.nextInt(60);
            for (int k = 0; k < size; k++) {
                text.append((char) ('A' + random.nextInt(26)));
            }
            text.append(' ');
        }
        return text.toString();
    }

    private String script() {
        StringBuilder text = new StringBuilder();
        int style = random.nextInt(5);
        for (int i = 0; i < 90 && text.length() < 1200; i++) {
            switch (random.nextInt(style == 0 ? 9 : 5)) {
                case 0: text.append("INT. ").append(upper(1 + random.nextInt(style == 1 ? 9 : 3))); break;
                case 1: text.append(speech(1 + random.nextInt(style == 2 ? 60 : 20))); break;
                case 2:
                case 3: appendTalk(text, style); break;
                case 4: text.append(upper(1 + random.nextInt(3))).append(":"); break;
                case 5: text.append("EXT.").append(upper(1)).append("\n").append(word()); break;
                case 6: text.append("  (").append(word()).append(") "); break;
                case 7: text.append(upper(1)).append(random.nextInt(2) == 0 ? "" : "\nx"); break;
                default: text.append(longWords()); break;
            }
            text.append(random.nextInt(12) == 0 ? "\n" : random.nextInt(6) == 0 ? "\n  \n" : "\n\n");
            if (style == 3) {
                text.append("x\n\n");
            }
        }
        return text.toString();
    }

    private void appendTalk(StringBuilder text, int style) {
        text.append(random.nextInt(3) == 0 ? "   " : "").append(NAMES[random.nextInt(NAMES.length)]);
        int parts = 1 + random.nextInt(3);
        for (int i = 0; i < parts; i++) {
            text.append('\n');
            if (random.nextInt(3) == 0) {
                text.append("(").append(speech(1 + random.nextInt(6)).replace('\n', ' ')).append(")\n");
            }
            text.append(speech(1 + random.nextInt(style == 4 ? 70 : 15)));
        }
    }

    private String upper(int words) {
        return speech(words).replace('\n', ' ').toUpperCase();
    }
}
