import java.util.ArrayList;
import java.util.List;
import java.util.Random;

/** Promises 3 and 7 together: random lists, written by the test itself, read and written in each form. */
public final class RoundTripTest {
    private static final String ALPHABET = "ab1#.\\ \"()~!,NETSD";

    public static void main(String[] args) {
        Random random = new Random(7);
        for (int run = 0; run < 300; run++) {
            oneList(random, run);
        }
        Check.end("RoundTripTest");
    }

    private static String text(Random random, int least) {
        int size = random.nextInt(4) == 0 ? 20 + random.nextInt(5) : least + random.nextInt(11);
        StringBuilder all = new StringBuilder();
        for (int i = 0; i < size; i++) {
            all.append(ALPHABET.charAt(random.nextInt(ALPHABET.length())));
        }
        return all.toString();
    }

    private static List<String> names(Random random, int count) {
        List<String> all = new ArrayList<>();
        while (all.size() < count) {
            String name = text(random, 1);
            if (!all.contains(name)) {
                all.add(name);
            }
        }
        return all;
    }

    private static String token(String text, boolean hashEscaped) {
        if (text.isEmpty()) {
            return "\\e";
        }
        String all = text.replace("\\", "\\\\").replace(".", "\\d").replace(" ", "\\s");
        return hashEscaped && all.charAt(0) == '#' ? "\\h" + all.substring(1) : all;
    }

    private static String quoted(String text) {
        return "\"" + text.replace("\\", "\\\\").replace("\"", "\\\"") + "\"";
    }

    private static String shortened(String text, List<String> longs) {
        if (text.length() <= 8) {
            return token(text, true);
        }
        if (!longs.contains(text)) {
            longs.add(text);
        }
        return String.format("#%02d", longs.indexOf(text));
    }

    private static void oneList(Random random, int run) {
        int told = random.nextInt(5);
        List<String> parts = names(random, told + random.nextInt(3));
        List<String> nets = names(random, random.nextInt(5));
        StringBuilder plain = new StringBuilder();
        StringBuilder lists = new StringBuilder("(netlist");
        StringBuilder rest = new StringBuilder("PARTS\n");
        List<String> longs = new ArrayList<>();
        for (int k = 0; k < told && k < parts.size(); k++) {
            String name = parts.get(k);
            String value = random.nextInt(3) == 0 ? name : text(random, 0);
            String foot = text(random, 0);
            plain.append("part " + token(name, false) + " " + token(value, false) + " " + token(foot, false) + "\n");
            lists.append("\n(part " + quoted(name) + " " + quoted(value) + " " + quoted(foot) + ")");
            rest.append(shortened(name, longs) + " " + shortened(value, longs) + " " + shortened(foot, longs) + "\n");
        }
        rest.append("NETS\n");
        int number = 0;
        for (String net : nets) {
            int cls = random.nextInt(10);
            plain.append("net " + token(net, false) + " " + cls);
            lists.append("\n(net " + quoted(net) + " " + cls);
            rest.append(shortened(net, longs) + " " + cls + "\n");
            for (int pins = random.nextInt(4); pins > 0 && !parts.isEmpty(); pins--) {
                String name = parts.get(random.nextInt(parts.size()));
                number += 1 + random.nextInt(60);
                plain.append(" " + token(name, false) + "." + number);
                lists.append(" (pin " + quoted(name) + " " + number + ")");
                rest.append(" " + shortened(name, longs) + " " + number + "\n");
            }
            plain.append("\n");
            lists.append(")");
        }
        lists.append(")\n");
        rest.append("END\n");
        StringBuilder all = new StringBuilder("LONG\n");
        for (int i = 0; i < longs.size(); i++) {
            all.append(String.format("#%02d %s\n", i, token(longs.get(i), true)));
        }
        String[] texts = {plain.toString(), lists.toString(), all.append(rest).toString()};
        for (int from = 0; from <= 2; from++) {
            NetlistTexts x = Check.with(from, texts[from]);
            Check.due("read() of <" + texts[from] + ">", x.read(), nets.size());
            for (int to = 0; to <= 2; to++) {
                Check.due("run " + run + " from " + from + " to " + to, Check.written(x, to), texts[to]);
            }
        }
    }
}
