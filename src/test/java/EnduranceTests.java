import java.util.Random;

/**
 * Calls of any kind with any numbers, far more of them than the document promises for, on desks that
 * are as full as can be: none may throw, and every answer is a number or a refusal.
 */
public final class EnduranceTests {
    private static final int[] ODD = {Integer.MIN_VALUE, Integer.MIN_VALUE + 1, -1000, -5, -4, -3, -2,
        -1, 0, 1, 2, 3, 4, 5, 6, 7, 8, 9, 10, 20, 26, 27, 28, 31, 32, 39, 40, 41, 59, 60, 61, 1199, 1200,
        1201, 65536, Integer.MAX_VALUE - 1, Integer.MAX_VALUE};

    private final Random random;
    private final ScriptDesk desk = new ScriptDesk();

    private EnduranceTests(long seed) {
        random = new Random(seed);
    }

    public static void main(String[] args) {
        int wrong = 0;
        for (int seed = 1; seed <= 300; seed++) {
            EnduranceTests test = new EnduranceTests(seed);
            try {
                if (seed % 10 == 0) {
                    test.fillWithLongElements();
                }
                test.callAnything(2000);
            } catch (RuntimeException | StackOverflowError e) {
                wrong++;
                System.out.println("seed " + seed + " threw " + e);
            }
        }
        System.out.println(wrong == 0 ? "no call threw" : wrong + " runs threw");
        if (wrong != 0) {
            System.exit(1);
        }
    }

    private int odd() {
        return random.nextInt(3) == 0 ? ODD[random.nextInt(ODD.length)] : random.nextInt(12);
    }

    /** 60 elements with 1200 bytes each: more than 512 calls can bring, but nothing may break. */
    private void fillWithLongElements() {
        desk.feed('x', 1);
        desk.read();
        for (int i = 0; i < 59; i++) {
            desk.lock();
            desk.length(random.nextInt(31) + 10);
            while (desk.feed(random.nextInt(4) == 0 ? 0x2061206262626262L : 0x6161616161616161L, 8) > 0) {
                continue;
            }
            desk.insert(random.nextInt(desk.count(1)), random.nextInt(3) == 0 ? odd() : 4 + i % 2);
            desk.merge();
        }
        desk.digest();
        for (int l = 10; l <= 40; l += 6) {
            desk.length(l);
            desk.pages();
            desk.lock();
            desk.digest();
            desk.strike(3);
            desk.merge();
        }
    }

    private void callAnything(int calls) {
        for (int i = 0; i < calls; i++) {
            switch (random.nextInt(26)) {
                case 0: desk.cut(odd()); break;
                case 1: if (random.nextInt(20) == 0) { desk.read(); } break;
                case 2: desk.length(odd()); break;
                case 3: desk.element(odd(), odd()); break;
                case 4: desk.rowByte(odd(), odd(), odd()); break;
                case 5: desk.pages(); break;
                case 6: desk.cost(); break;
                case 7: desk.page(odd(), odd()); break;
                case 8: desk.lock(); break;
                case 9: desk.strike(odd()); break;
                case 10: desk.insert(odd(), odd()); break;
                case 11: desk.sheets(odd()); break;
                case 12: desk.sheet(odd(), odd(), odd()); break;
                case 13: desk.where(odd()); break;
                case 14: if (random.nextInt(5) == 0) { desk.merge(); } break;
                case 15: desk.scenes(); break;
                case 16: desk.scene(odd(), odd()); break;
                case 17: desk.who(odd(), odd()); break;
                case 18: desk.parts(odd()); break;
                case 19: desk.count(odd()); break;
                case 20: desk.digest(); break;
                case 21: desk.feed(0x0A0A494E542E2041L, 8); break;
                case 22: desk.feed(0x0A0A424F420A6869L, 8); break;
                case 23: desk.feed(0x6161616120616162L, 8); break;
                default: desk.feed(random.nextLong(), odd()); break;
            }
        }
    }
}
