import java.util.ArrayList;
import java.util.Arrays;
import java.util.HashSet;
import java.util.List;
import java.util.Random;
import java.util.Set;
import java.util.TreeMap;

/** Promises 8 (compare) and 9 (renamed). */
public final class CompareTest {
    public static void main(String[] args) {
        samePins();
        mostPins();
        leastNames();
        partsByName();
        latestPairs();
        wrong();
        againstModel();
        Check.end("CompareTest");
    }

    /** An object with two lists, the second one at hand. */
    private static NetlistTexts two(String other, String atHand) {
        NetlistTexts x = Check.reading(0, other);
        Check.readNext(x, atHand);
        return x;
    }

    private static String renamedPairs(NetlistTexts x, int other) {
        int count = x.compare(other);
        StringBuilder all = new StringBuilder();
        for (int k = 0; k < count; k++) {
            all.append(k == 0 ? "" : " ").append(x.renamed(k, 0)).append('-').append(x.renamed(k, 1));
        }
        Check.dueOutOfBounds("the pair behind the last one", () -> x.renamed(count, 0));
        return all.toString();
    }

    private static void samePins() {
        NetlistTexts x = two("net A 1 p.1 p.2\nnet B 1 p.3\nnet C 1\nnet D 1 p.4\n",
                "net Y 1 p.3\nnet D 2 p.4\nnet X 1 p.2 p.1\nnet Z 1\n");
        Check.due("nets with just the same pins", renamedPairs(x, 0), "0-1 2-0");
        Check.due("the list with itself", renamedPairs(x, 1), "");
        NetlistTexts swapped = two("net A 1 p.1\nnet B 1 p.2\n", "net B 1 p.1\nnet A 1 p.2\n");
        Check.due("names changed crosswise", renamedPairs(swapped, 0), "0-0 1-1");
        NetlistTexts empty = two("net A 1\n", "net B 1\n");
        Check.due("nets without pins", renamedPairs(empty, 0), "");
    }

    private static void mostPins() {
        // E and e are the same; of the others first M with n (two pins), so that N is left for m (one).
        NetlistTexts x = two("net e 1 p.9\nnet n 1 p.1 p.2 p.3\nnet m 1 p.4 p.5\n",
                "net N 1 p.3 p.5\nnet M 1 p.1 p.2 p.4\nnet E 1 p.9\n");
        Check.due("the most pins in common", renamedPairs(x, 0), "0-2 1-1 2-0");
        NetlistTexts both = two("net b 1 p.1\nnet c 1 p.2 p.3 p.4\n", "net C 1 p.2 p.3\nnet A 1 p.1\n");
        Check.due("the same pins, and the most of those left", renamedPairs(both, 0), "0-1 1-0");
        NetlistTexts nothing = two("net b 1 p.1\n", "net C 1 p.2\n");
        Check.due("no pin in common", renamedPairs(nothing, 0), "");
        NetlistTexts left = two("net b 1 p.1 p.2 p.3\n", "net C 1 p.1\nnet D 1 p.2 p.3\n");
        Check.due("one net of two", renamedPairs(left, 0), "1-0");
    }

    private static void leastNames() {
        NetlistTexts first = two("net x 1 p.1 p.2 p.3\n", "net B 1 p.1\nnet AB 1 p.2\nnet AA0 1 p.3\n");
        Check.due("the least name of the first list", renamedPairs(first, 0), "2-0");
        NetlistTexts prefix = two("net x 1 p.1 p.2\n", "net AA 1 p.1\nnet A 1 p.2\n");
        Check.due("a name that goes on is greater", renamedPairs(prefix, 0), "1-0");
        NetlistTexts second = two("net y 1 p.1\nnet xx 1 p.2\nnet x~ 1 p.3\n", "net N 1 p.1 p.2 p.3\n");
        Check.due("the least name of the second list", renamedPairs(second, 0), "0-1");
        NetlistTexts kept = two("net N 1 p.2\nnet O 1 p.1\n", "net N 1 p.1 p.2\n");
        Check.due("matched with its own name", renamedPairs(kept, 0), "");
    }

    private static void partsByName() {
        NetlistTexts x = two("part a b c\npart b b c\nnet n 1 a.1 q.2\n", "part b x y\npart a x y\nnet m 1 q.2 a.1\n");
        Check.due("parts with other numbers", renamedPairs(x, 0), "0-0");
        NetlistTexts other = two("part a b c\nnet n 1 a.1\n", "part b b c\nnet m 1 b.1\n");
        Check.due("parts with other names", renamedPairs(other, 0), "");
        NetlistTexts moved = two("net n 1 a.1\nnet m 1 a.2\n", "net n 1 a.1\nnet m 1 a.2\n");
        moved.swap(0, 1, 2);
        Check.due("after swap()", renamedPairs(moved, 0), "0-1 1-0");
    }

    private static void latestPairs() {
        NetlistTexts x = two("net A 1 p.1\n", "net B 1 p.1\n");
        Check.dueOutOfBounds("renamed(0, 0) before compare()", () -> x.renamed(0, 0));
        Check.due("compare(0)", x.compare(0), 1);
        x.unit('?');
        x.read();
        Check.due("renamed(0, 1) after a fault", x.renamed(0, 1), 0);
        Check.dueOutOfBounds("compare(2)", () -> x.compare(2));
        Check.due("renamed(0, 1) after a refused compare()", x.renamed(0, 1), 0);
        x.swap(0, 1, 2);
        Check.due("renamed(0, 0) after swap()", x.renamed(0, 0), 0);
        Check.due("compare(1)", x.compare(1), 0);
        Check.dueOutOfBounds("renamed(0, 0) after a compare() that found none", () -> x.renamed(0, 0));
        Check.readNext(x, "net C 1 p.1\n");
        Check.due("compare(0)", x.compare(0), 1);
        Check.readNext(x, "net C 1 p.1\n");
        Check.dueOutOfBounds("renamed(0, 0) after read()", () -> x.renamed(0, 0));
    }

    private static void wrong() {
        NetlistTexts x = two("net A 1 p.1\n", "net B 1 p.1\n");
        x.compare(0);
        for (int side : new int[] {-1, 2, Integer.MIN_VALUE, Integer.MAX_VALUE}) {
            Check.dueOutOfBounds("renamed(0, " + side + ")", () -> x.renamed(0, side));
        }
        for (int k : new int[] {-1, 1, Integer.MIN_VALUE, Integer.MAX_VALUE}) {
            Check.dueOutOfBounds("renamed(" + k + ", 0)", () -> x.renamed(k, 0));
            Check.dueOutOfBounds("compare(" + (k == 1 ? 2 : k) + ")", () -> x.compare(k == 1 ? 2 : k));
        }
    }

    private static void againstModel() {
        Random random = new Random(8);
        for (int run = 0; run < 400; run++) {
            List<String> names = new ArrayList<>();
            List<Set<String>> nets = new ArrayList<>();
            List<String> otherNames = new ArrayList<>();
            List<Set<String>> otherNets = new ArrayList<>();
            String other = randomList(random, otherNames, otherNets);
            String atHand = randomList(random, names, nets);
            Check.due("compare " + run + " of <" + atHand + "> with <" + other + ">",
                    renamedPairs(two(other, atHand), 0), model(names, nets, otherNames, otherNets));
        }
    }

    private static String randomList(Random random, List<String> names, List<Set<String>> nets) {
        int count = 1 + random.nextInt(6);
        for (int k = 0; k < count; k++) {
            String name;
            do {
                name = Check.repeat("n", random.nextInt(2)) + (char) ('a' + random.nextInt(6));
            } while (names.contains(name));
            names.add(name);
            nets.add(new HashSet<>());
        }
        StringBuilder[] lines = new StringBuilder[count];
        for (int k = 0; k < count; k++) {
            lines[k] = new StringBuilder("net " + names.get(k) + " 1");
        }
        for (int pin = 0; pin < 12; pin++) {
            int net = random.nextInt(count + 1);
            if (net < count) {
                String name = "q" + pin % 3 + "." + (pin / 3 + 1);
                nets.get(net).add(name);
                lines[net].append(' ').append(name);
            }
        }
        StringBuilder all = new StringBuilder();
        for (StringBuilder line : lines) {
            all.append(line).append('\n');
        }
        return all.toString();
    }

    private static String model(List<String> names, List<Set<String>> nets, List<String> otherNames,
            List<Set<String>> otherNets) {
        int[] mates = new int[nets.size()];
        Arrays.fill(mates, -1);
        Set<Integer> used = new HashSet<>();
        for (int a = 0; a < mates.length; a++) {
            int b = otherNets.indexOf(nets.get(a));
            if (b >= 0 && !nets.get(a).isEmpty()) {
                mates[a] = b;
                used.add(b);
            }
        }
        while (true) {
            // Ordered by how many pins (most first), then by the names: the least of these rows is the next pair.
            TreeMap<String, int[]> rows = new TreeMap<>();
            for (int a = 0; a < mates.length; a++) {
                for (int b = 0; b < otherNets.size(); b++) {
                    Set<String> common = new HashSet<>(nets.get(a));
                    common.retainAll(otherNets.get(b));
                    if (mates[a] < 0 && !used.contains(b) && !common.isEmpty()) {
                        rows.put((char) (200 - common.size()) + names.get(a) + " " + otherNames.get(b), new int[] {a, b});
                    }
                }
            }
            if (rows.isEmpty()) {
                break;
            }
            int[] next = rows.firstEntry().getValue();
            mates[next[0]] = next[1];
            used.add(next[1]);
        }
        StringBuilder all = new StringBuilder();
        for (int a = 0; a < mates.length; a++) {
            if (mates[a] >= 0 && !names.get(a).equals(otherNames.get(mates[a]))) {
                all.append(all.length() == 0 ? "" : " ").append(a).append('-').append(mates[a]);
            }
        }
        return all.toString();
    }
}
