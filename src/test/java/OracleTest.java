import java.util.Random;

/** Runs of calls by lot, each answered by the program and by the oracle: the answers must agree. */
public final class OracleTest {
    private static final String[] NAMES = {
        "letter", "hall", "player", "hits", "set", "here", "of", "best", "from", "point",
        "twoOrThree", "rebound", "foul", "whom", "freed", "doubled", "howGood", "call", "on",
        "byLaw", "fairest", "hand", "row", "judge", "lots", "image", "restore", "count"};
    private static final int RUNS = 250;
    private static final int CALLS = 500;

    private final Random random;
    private NineteenSecondsLeft program;
    private Oracle oracle;
    private final StringBuilder told = new StringBuilder();
    private int passed = 0;
    private int failed = 0;

    private OracleTest(long seed) {
        random = new Random(seed);
    }

    public static void main(String[] args) {
        OracleTest test = new OracleTest(19);
        for (int run = 0; run < RUNS && test.failed == 0; run++) {
            test.run(run);
        }
        System.out.println(test.passed + " passed, " + test.failed + " failed");
        if (test.failed != 0) {
            System.exit(1);
        }
    }

    private void run(int run) {
        program = new NineteenSecondsLeft();
        oracle = new Oracle();
        told.setLength(0);
        int left = CALLS;
        while (left > 0 && failed == 0) {
            if (random.nextInt(12) == 0 || left == CALLS) {
                left -= letters(run, text());
            } else {
                left -= both(run, random.nextInt(NAMES.length), pick(), pick(), pick());
            }
        }
    }

    private int letters(int run, String text) {
        for (int i = 0; i < text.length(); i++) {
            both(run, 0, text.charAt(i), 0, 0);
        }
        return text.length() + both(run, 1, 0, 0, 0);
    }

    /** Mostly right ones, some with one letter wrong, lacking or too much. */
    private String text() {
        StringBuilder text = new StringBuilder();
        int statements = 1 + random.nextInt(7);
        for (int i = 0; i < statements; i++) {
            text.append(statement());
        }
        int place = random.nextInt(text.length());
        switch (random.nextInt(12)) {
            case 0:
                text.setCharAt(place, (char) (32 + random.nextInt(96)));
                break;
            case 1:
                text.deleteCharAt(place);
                break;
            case 2:
                text.setLength(place);
                break;
            case 3:
                text.insert(place, "9s;+p".charAt(random.nextInt(5)));
                break;
            default:
                break;
        }
        return text.length() > 96 ? text.substring(0, 96) : text.toString();
    }

    private String statement() {
        boolean wild = random.nextInt(25) == 0;
        switch (wild || random.nextInt(3) == 0 ? 1 + random.nextInt(8) : 0) {
            case 0:
                return "p" + digit(1, wild) + "shtbok".charAt(random.nextInt(6)) + digit(9, false)
                        + digit(9, false) + digit(9, false) + ";";
            case 1:
                int s = random.nextInt(wild ? 100 : 25);
                return "c" + s / 10 + s % 10 + ";";
            case 2:
                return "l" + "+-".charAt(random.nextInt(2)) + digit(6, wild) + ";";
            case 3:
                return "b" + digit(1, wild) + ";";
            case 4:
                return "f" + digit(1, wild) + digit(5, wild) + ";";
            case 5:
                return "o" + digit(1, wild) + digit(2, wild) + ";";
            case 6:
                return "r" + digit(9, false) + ";";
            case 7:
                return "w" + digit(3, wild) + ";";
            default:
                return "d" + digit(9, false) + ";";
        }
    }

    private int digit(int most, boolean wild) {
        return random.nextInt((wild ? 9 : most) + 1);
    }

    private int pick() {
        switch (random.nextInt(40)) {
            case 0:
                return -1 - random.nextInt(3);
            case 1:
                return random.nextInt(300);
            case 2:
                return random.nextInt();
            case 3:
            case 4:
            case 5:
            case 6:
            case 7:
            case 8:
                return random.nextInt(26);
            default:
                return random.nextInt(random.nextBoolean() ? 3 : 10);
        }
    }

    private int both(int run, int name, int a, int b, int c) {
        int x = a;
        int y = b;
        int w = c;
        if (name == 4 && random.nextInt(4) != 0) {
            x = random.nextInt(10);
            y = random.nextInt(new int[] {25, 13, 2, 6, 6, 3, 3, 10, 4, 10}[x]);
        } else if (name == 6 || name == 7) {
            w = random.nextInt(5) == 0 ? c : random.nextInt(2);
            x = random.nextInt(5) == 0 ? a : random.nextInt(25);
        }
        int got = program(name, x, y, w);
        int due = oracle(name, x, y, w);
        told.append(NAMES[name]).append('(').append(x).append(", ").append(y).append(", ").append(w)
                .append(") ").append(got).append('\n');
        if (got == due) {
            passed++;
        } else {
            failed++;
            System.out.println("run " + run + ":\n" + told + "due is " + due);
        }
        return 1;
    }

    private int program(int name, int a, int b, int c) {
        NineteenSecondsLeft p = program;
        switch (name) {
            case 0: return p.letter(a);
            case 1: return p.hall();
            case 2: return p.player(a, b);
            case 3: return p.hits(a, b, c);
            case 4: return p.set(a, b);
            case 5: return p.here();
            case 6: return p.of(a, b, c);
            case 7: return p.best(a, b, c);
            case 8: return p.from(a, b);
            case 9: return p.point();
            case 10: return p.twoOrThree();
            case 11: return p.rebound();
            case 12: return p.foul(a);
            case 13: return p.whom(a);
            case 14: return p.freed(a);
            case 15: return p.doubled(a, b);
            case 16: return p.howGood(a, b);
            case 17: return p.call();
            case 18: return p.on();
            case 19: return p.byLaw(a);
            case 20: return p.fairest();
            case 21: return p.hand(a);
            case 22: return p.row(a);
            case 23: return p.judge();
            case 24: return p.lots(a, b);
            case 25: return p.image();
            case 26: return p.restore();
            default: return p.count(a);
        }
    }

    private int oracle(int name, int a, int b, int c) {
        Oracle o = oracle;
        switch (name) {
            case 0: return o.letter(a);
            case 1: return o.hall();
            case 2: return o.player(a, b);
            case 3: return o.hits(a, b, c);
            case 4: return o.set(a, b);
            case 5: return o.here();
            case 6: return o.of(a, b, c);
            case 7: return o.best(a, b, c);
            case 8: return o.from(a, b);
            case 9: return o.point();
            case 10: return o.twoOrThree();
            case 11: return o.rebound();
            case 12: return o.foul(a);
            case 13: return o.whom(a);
            case 14: return o.freed(a);
            case 15: return o.doubled(a, b);
            case 16: return o.howGood(a, b);
            case 17: return o.call();
            case 18: return o.on();
            case 19: return o.byLaw(a);
            case 20: return o.fairest();
            case 21: return o.hand(a);
            case 22: return o.row(a);
            case 23: return o.judge();
            case 24: return o.lots(a, b);
            case 25: return o.image();
            case 26: return o.restore();
            default: return o.count(a);
        }
    }
}
