import java.util.ArrayList;
import java.util.List;
import java.util.Random;

/**
 * Random runs of at most 512 calls on one object, each answer (or exception) compared with that of RunModel: texts
 * right and wrong, lists that come and go, swaps, notes, parts taken, pairs renamed, in any order.
 */
public final class RunsTest {
    private static final int MOST_CALLS = 512;
    private static final String[] NAMES = {"a", "b", "R1", "U.1", "#x", "NETS", "END", "q w", "\\", "\"", "E", "resistor10", "1234567 9",
        "#23456789", "abcdefghijklmnopqrstuvwx"};
    private static final int[] EXTREMES = {Integer.MIN_VALUE, -65, -64, -2, 4, 23, 24, 39, 40, 49, 50, 62, 63, 64, 126, 127, 128, 191,
        192, 999, 1000, 4000, Integer.MAX_VALUE};
    private static final int PIN = 1;
    private static final int PART = 2;
    private static final int WRITE = 3;
    private static final int COMPARE = 4;
    private static final int RENAMED = 5;
    private static final int SWAP = 6;
    private static final int NOTE = 7;
    private static final int TAKE = 8;
    private static final String KINDS = "net pin part write compare renamed swap note take unknown cls";

    private final Random random;
    private final int form;
    private final NetlistTexts x;
    private final RunModel model;
    private final StringBuilder told = new StringBuilder();
    private int calls = 0;
    private int lastKind = 0;

    private RunsTest(int seed) {
        random = new Random(seed);
        form = seed % 3;
        int made = random.nextInt(9) > 0 || form == 1 ? form : form == 0 ? -random.nextInt(3) : 2 + random.nextInt(3);
        x = new NetlistTexts(made);
        model = new RunModel(made);
    }

    public static void main(String[] args) {
        int runs = args.length > 0 ? Integer.parseInt(args[0]) : 3000;
        int[] answered = new int[KINDS.split(" ").length];
        for (int seed = 0; seed < runs; seed++) {
            new RunsTest(seed).run(answered);
        }
        for (int kind = 0; kind < answered.length; kind++) {
            Check.due("answers without an exception of " + KINDS.split(" ")[kind] + " are there", answered[kind] > runs / 8, true);
        }
        Check.end("RunsTest");
    }

    private boolean isOver() {
        return calls >= MOST_CALLS;
    }

    private void run(int[] answered) {
        while (!isOver()) {
            int way = random.nextInt(10);
            if (way < 2) {
                clear();
            }
            if (way < 6) {
                String text = random.nextBoolean() ? someText() : RunModel.rewritten(form, someText());
                put(random.nextInt(4) == 0 ? spoilt(text) : text);
            }
            read();
            for (int some = random.nextInt(40); some > 0 && !isOver(); some--) {
                ask(answered);
            }
            if (random.nextInt(8) == 0) {
                manySwaps(answered);
            }
            if (way < 8) {
                clear();
            }
        }
        writings();
    }

    /** What was left at the end, in each form; calls behind the 512th serve only to see it. */
    private void writings() {
        for (int to = 0; to <= 2; to++) {
            int i = 0;
            String want = answer(false, WRITE, to, 0, 0);
            while (!want.equals("-1") && !want.startsWith("I")) {
                due("write(" + to + ", " + i + ")", answer(true, WRITE, to, i, 0), want);
                i++;
                want = answer(false, WRITE, to, i, 0);
            }
            due("write(" + to + ", " + i + ")", answer(true, WRITE, to, i, 0), want);
        }
    }

    /** So many swaps that most often there are 50 notes, and then all of these. */
    private void manySwaps(int[] answered) {
        for (int some = 0; some < 90 && !isOver(); some++) {
            call(SWAP, 0, 1 + random.nextInt(5), 1 + random.nextInt(5), answered);
        }
        for (int k = 0; k <= 51 && !isOver(); k++) {
            call(NOTE, 51 - k, random.nextInt(3), 0, answered);
        }
    }

    private void clear() {
        if (!isOver()) {
            calls++;
            told.append("clear() ");
            x.clear();
            model.clear();
        }
    }

    private void put(String text) {
        told.append('<').append(text).append("> ");
        for (int i = 0; i < text.length() && !isOver(); i++) {
            calls++;
            due("unit", String.valueOf(x.unit(text.charAt(i))), model.unit(text.charAt(i)));
        }
    }

    private void read() {
        if (!isOver()) {
            calls++;
            told.append("read() ");
            due("read", String.valueOf(x.read()), String.valueOf(model.read()));
        }
    }

    private void due(String call, String got, String want) {
        Check.due("form " + form + ", run " + told + call, got, want);
    }

    private String pick(String... all) {
        return all[random.nextInt(all.length)];
    }

    private List<String> someNames(int count) {
        List<String> all = new ArrayList<>();
        for (int i = 0; i < count; i++) {
            String name = random.nextInt(3) > 0 ? NAMES[random.nextInt(5)] : pick(NAMES);
            if (!all.contains(name)) {
                all.add(name);
            }
        }
        return all;
    }

    /** A small list of few names, so that lists of one run have parts, pins and names of nets in common. */
    private String someText() {
        FormText text = new FormText(form);
        if (random.nextInt(8) == 0) {
            return text.text();
        }
        for (String name : someNames(random.nextInt(4))) {
            text.part(name, pick("", "10k", name), pick(NAMES));
        }
        List<String> pins = new ArrayList<>();
        for (String name : someNames(1 + random.nextInt(5))) {
            text.net(name, String.valueOf(random.nextInt(10)));
            for (int count = random.nextInt(5); count > 0; count--) {
                String part = random.nextInt(6) == 0 ? pick(NAMES) : NAMES[random.nextInt(2)];
                int number = random.nextInt(9) == 0 ? 1 + random.nextInt(999) : 1 + random.nextInt(5);
                if (!pins.contains(part + "\n" + number)) {
                    pins.add(part + "\n" + number);
                    text.pin(part, String.valueOf(number));
                }
            }
        }
        return text.text();
    }

    private String spoilt(String text) {
        int at = random.nextInt(text.length() + 1);
        String tail = text.substring(at);
        String some = pick("a", " ", "\n", "\\", ".", "#", "\"", "(", ")", "0", "1", "e", "p", "n", "\\e", "#00");
        return text.substring(0, at) + (random.nextBoolean() ? "" : some) + (tail.isEmpty() ? "" : tail.substring(random.nextInt(2)));
    }

    private int argument(int most) {
        return random.nextInt(12) == 0 ? EXTREMES[random.nextInt(EXTREMES.length)] : random.nextInt(most + 2) - 1;
    }

    /** Pairs are asked for behind a compare(), notes behind a swap(), most often; swaps come in rows. */
    private int follows() {
        if (random.nextInt(3) > 0 && (lastKind == COMPARE || lastKind == RENAMED)) {
            return RENAMED;
        }
        if (random.nextInt(3) > 0 && (lastKind == SWAP || lastKind == NOTE)) {
            return random.nextInt(3) == 0 ? NOTE : SWAP;
        }
        return random.nextInt(KINDS.split(" ").length);
    }

    private void ask(int[] answered) {
        int kind = follows();
        lastKind = kind;
        int a = kind == NOTE ? argument(random.nextInt(51)) : argument(kind == WRITE ? 2 : kind == RENAMED ? 1 : 3);
        int b = kind == PART ? 64 * argument(2) + (random.nextBoolean() ? 63 : argument(4))
                : argument(kind == WRITE ? 90 : kind == RENAMED ? 1 : kind == NOTE ? 2 : 5);
        int c = kind == PIN ? argument(1) : argument(5);
        call(kind, a, b, c, answered);
    }

    private void call(int kind, int a, int b, int c, int[] answered) {
        calls++;
        String call = KINDS.split(" ")[kind] + "(" + a + ", " + b + ", " + c + ") ";
        String want = answer(false, kind, a, b, c);
        due(call, answer(true, kind, a, b, c), want);
        told.append(kind == COMPARE || kind == SWAP || kind == TAKE ? call : "");
        answered[kind] += want.startsWith("I") || want.equals("-1") ? 0 : 1;
    }

    private String answer(boolean real, int kind, int a, int b, int c) {
        try {
            return String.valueOf(real ? realCall(kind, a, b, c) : modelCall(kind, a, b, c));
        } catch (RuntimeException e) {
            return e.getClass().getSimpleName();
        }
    }

    private int realCall(int kind, int a, int b, int c) {
        switch (kind) {
            case 0: return x.net(a, b);
            case 1: return x.pin(a, b, c);
            case 2: return x.part(a, b);
            case 3: return x.write(a, b);
            case 4: return x.compare(a);
            case 5: return x.renamed(a, b);
            case 6: return x.swap(a, b, c);
            case 7: return x.note(a, b);
            case 8: return x.take(a);
            case 9: return x.unknown(a);
            default: return x.cls(a);
        }
    }

    private int modelCall(int kind, int a, int b, int c) {
        switch (kind) {
            case 0: return model.net(a, b);
            case 1: return model.pin(a, b, c);
            case 2: return model.part(a, b);
            case 3: return model.write(a, b);
            case 4: return model.compare(a);
            case 5: return model.renamed(a, b);
            case 6: return model.swap(a, b, c);
            case 7: return model.note(a, b);
            case 8: return model.take(a);
            case 9: return model.unknown(a);
            default: return model.cls(a);
        }
    }
}
