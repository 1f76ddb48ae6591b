import java.util.Random;

/**
 * Random runs of calls with ordinary and extreme arguments: a call throws what the document says for it, of
 * just that class (an ArrayIndexOutOfBoundsException would be the machine's), and the same run on a second
 * object gives the same answers.
 */
public final class AnyCallsTest {
    private static final int[] EXTREMES = {Integer.MIN_VALUE, Integer.MIN_VALUE + 1, -65, -64, -2, -1, 0, 1, 2, 3, 4, 23,
        24, 39, 40, 41, 49, 50, 62, 63, 64, 127, 128, 159, 160, 161, 191, 192, 999, 1000, 3999, 4000, 89478486,
        Integer.MAX_VALUE - 1, Integer.MAX_VALUE};
    private static final String[][] TEXTS = {
        {"", "part a b c\npart d e f\n", "net A 1 a.1 d.2 q.3\n", "net B 2 a.2\n", "net A 1 a.1\n", "net", " x.9", "\n", "?"},
        {"(netlist)", "(netlist (part \"a\" \"b\" \"c\")", "(net \"A\" 1 (pin \"a\" 1)(pin \"q\" 2))", "(net \"B\" 1)", ")", "(", "\\"},
        {"LONG\nPARTS\nNETS\nEND\n", "LONG\n#00 resistor10\nPARTS\n#00 b c\nNETS\n", "A 1\n #00 1\n q 2\n", "B 2\n #00 2\n",
            "END\n", "#00 9\n", "#"}};

    public static void main(String[] args) {
        for (int run = 0; run < 3000; run++) {
            String first = run(run);
            Check.due("the answers of run " + run + ", made again", run(run), first);
        }
        Check.end("AnyCallsTest");
    }

    private static int argument(Random random) {
        return random.nextInt(4) == 0 ? EXTREMES[random.nextInt(EXTREMES.length)] : random.nextInt(5) - 1;
    }

    private static String run(int seed) {
        Random random = new Random(seed);
        int form = seed % 3;
        NetlistTexts x = new NetlistTexts(form);
        StringBuilder answers = new StringBuilder();
        for (int i = 0; i < 120; i++) {
            int kind = random.nextInt(15);
            int a = argument(random);
            int b = argument(random);
            int c = argument(random);
            if (kind == 0) {
                Check.put(x, TEXTS[form][random.nextInt(TEXTS[form].length)]);
            } else {
                answers.append(answer(x, kind, a, b, c)).append(' ');
            }
        }
        return answers.toString();
    }

    private static String answer(NetlistTexts x, int kind, int a, int b, int c) {
        try {
            return String.valueOf(call(x, kind, a, b, c));
        } catch (RuntimeException e) {
            boolean outOfBounds = e.getClass() == IndexOutOfBoundsException.class && kind >= 3 && kind <= 12;
            boolean argument = e.getClass() == IllegalArgumentException.class && (kind == 6 || kind == 9);
            boolean state = e.getClass() == IllegalStateException.class && kind == 6;
            Check.due("call " + kind + " (" + a + ", " + b + ", " + c + ") threw " + e, outOfBounds || argument || state, true);
            return e.getClass().getSimpleName();
        }
    }

    private static int call(NetlistTexts x, int kind, int a, int b, int c) {
        switch (kind) {
            case 1: return x.unit(a) ? 1 : 0;
            case 2: return x.read();
            case 3: return x.net(a, b);
            case 4: return x.pin(a, b, c);
            case 5: return x.part(a, b);
            case 6: return x.write(a, b);
            case 7: return x.compare(a);
            case 8: return x.renamed(a, b);
            case 9: return x.swap(a, b, c);
            case 10: return x.note(a, b);
            case 11: return x.take(a);
            case 12: return x.cls(a);
            case 13: return x.unknown(a);
            default:
                x.clear();
                return 0;
        }
    }
}
