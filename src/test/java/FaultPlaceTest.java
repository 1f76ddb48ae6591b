import java.util.Random;

/** Promise 3 against a model of another kind: texts, most of them spoilt at one place. */
public final class FaultPlaceTest {
    public static void main(String[] args) {
        Random random = new Random(3);
        int[] kinds = new int[3];
        for (int run = 0; run < 60000; run++) {
            int form = run % 3;
            String text = spoilt(random, sample(random, form));
            FaultModel model = new FaultModel(form, text);
            int due = model.faultPlace();
            kinds[due == -1 ? 0 : due == model.basePlace() ? 1 : 2]++;
            int got = Check.with(form, text).read();
            Check.due("form " + form + ", fault of <" + text + ">", got < 0 ? -1 - got : -1, due);
        }
        Check.due("texts without, with base faults and with others are all there",
                kinds[0] > 1000 && kinds[1] > 1000 && kinds[2] > 1000, true);
        Check.end("FaultPlaceTest");
    }

    private static String pick(Random random, String... all) {
        return all[random.nextInt(all.length)];
    }

    private static String token(Random random, int form) {
        String some = pick(random, "a", "b", "R1", "R2", "E", "N", "NETS", "END", "U\\d1", "x\\\\", "part", "net");
        if (form == 2) {
            return pick(random, some, some, some, "#00", "#01", "\\hq", "\\e");
        }
        return pick(random, some, some, some, "#a", "q#", "\\e", Check.repeat("z", 23 + random.nextInt(3)));
    }

    private static String quoted(Random random) {
        return "\"" + pick(random, "a", "b", "c d", "\\\"", "R\\\\", "(", "R1", "R2", "", Check.repeat("z", 23 + random.nextInt(3))) + "\"";
    }

    private static String number(Random random) {
        return String.valueOf(random.nextInt(5) == 0 ? random.nextInt(1200) : 1 + random.nextInt(20));
    }

    private static String sample(Random random, int form) {
        int parts = random.nextInt(3);
        int nets = random.nextInt(4);
        return form == 0 ? samplePlain(random, parts, nets)
                : form == 1 ? sampleLists(random, parts, nets) : sampleLong(random, parts, nets);
    }

    private static String threeTokens(Random random, int form) {
        return token(random, form) + " " + token(random, form) + " " + token(random, form) + "\n";
    }

    private static String samplePlain(Random random, int parts, int nets) {
        StringBuilder all = new StringBuilder();
        for (int i = 0; i < parts; i++) {
            all.append("part ").append(threeTokens(random, 0));
        }
        for (int i = 0; i < nets; i++) {
            all.append("net ").append(token(random, 0)).append(" 1");
            for (int pins = random.nextInt(4); pins > 0; pins--) {
                all.append(' ').append(token(random, 0)).append('.').append(number(random));
            }
            all.append('\n');
        }
        return all.toString();
    }

    private static String sampleLists(Random random, int parts, int nets) {
        StringBuilder all = new StringBuilder("(netlist");
        for (int i = 0; i < parts; i++) {
            all.append(pick(random, "(", "\n( ")).append("part ");
            all.append(quoted(random)).append(' ').append(quoted(random)).append(' ').append(quoted(random)).append(')');
        }
        for (int i = 0; i < nets; i++) {
            all.append(" (net ").append(quoted(random)).append("  3");
            for (int pins = random.nextInt(4); pins > 0; pins--) {
                all.append("(pin ").append(quoted(random)).append('\n').append(number(random)).append(pick(random, ")", " )"));
            }
            all.append(')');
        }
        return all.append(pick(random, ")", " )\n")).toString();
    }

    private static String sampleLong(Random random, int parts, int nets) {
        StringBuilder all = new StringBuilder("LONG\n");
        all.append(pick(random, "", "#00 resistor10\n", "#00 resistor10\n#01 long\\stext\\d\n")).append("PARTS\n");
        for (int i = 0; i < parts; i++) {
            all.append(threeTokens(random, 2));
        }
        all.append("NETS\n");
        for (int i = 0; i < nets; i++) {
            all.append(token(random, 2)).append(" 7\n");
            for (int pins = random.nextInt(4); pins > 0; pins--) {
                all.append(' ').append(token(random, 2)).append(' ').append(number(random)).append('\n');
            }
        }
        return all.append("END\n").toString();
    }

    private static String spoilt(Random random, String text) {
        int way = random.nextInt(5);
        int at = random.nextInt(text.length() + 1);
        String head = text.substring(0, at);
        String tail = text.substring(at);
        String some = pick(random, "a", " ", "\n", "\\", ".", "#", "\"", "(", ")", "0", "1", "e", "p", "n", "\\e", "\\d", "#0", "#00");
        if (way == 0 || tail.isEmpty()) {
            return head;
        }
        return way == 1 ? head + some + tail : way == 2 ? head + some + tail.substring(1) : way == 3 ? head + tail.substring(1) : text;
    }
}
