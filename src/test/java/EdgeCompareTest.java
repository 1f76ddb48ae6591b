/** The edges that promises 8 (compare), 9 (renamed) and MATCHED name, sentence by sentence. */
public final class EdgeCompareTest {
    private static final int MIN = Integer.MIN_VALUE;
    private static final int MAX = Integer.MAX_VALUE;

    public static void main(String[] args) {
        itself();
        noSuchList();
        otherNames();
        notWithoutAny();
        justTheSamePins();
        samePinsFirst();
        mostPins();
        oneAtLeast();
        leastOfFirst();
        leastOfSecond();
        againAndAgain();
        fullLists();
        comparedBefore();
        foundLatest();
        byNumbers();
        noSuchPair();
        noSuchSide();
        withRead();
        Check.end("EdgeCompareTest");
    }

    /** An object with two lists, the second one at hand. */
    private static NetlistTexts two(String other, String atHand) {
        NetlistTexts x = Check.reading(0, other);
        Check.readNext(x, atHand);
        return x;
    }

    private static void duePairs(String call, NetlistTexts x, int other, String want) {
        int count = x.compare(other);
        StringBuilder all = new StringBuilder();
        for (int k = 0; k < count; k++) {
            all.append(k == 0 ? "" : " ").append(x.renamed(k, 0)).append('-').append(x.renamed(k, 1));
        }
        Check.due(call, all.toString(), want);
        Check.dueOutOfBounds(call + ", the pair behind the last one", () -> x.renamed(count, 0));
    }

    private static void itself() {
        Check.sentence("8: (or itself)");
        NetlistTexts x = Check.reading(0, "net a 1 p.1 q.2\nnet b 1 p.2\nnet c 1\nnet d 1\n");
        duePairs("compare(0)", x, 0, "");
        x.swap(0, 1, 2);
        duePairs("compare(0) after swap()", x, 0, "");
        Check.readNext(x, "");
        duePairs("an empty list with itself", x, 1, "");
        duePairs("an empty list with another one", x, 0, "");
        Check.readNext(x, "net e 1 p.2\n");
        duePairs("a list with an empty one", x, 1, "");
    }

    private static void noSuchList() {
        Check.sentence("8: IndexOutOfBoundsException, when there is no such list");
        NetlistTexts x = new NetlistTexts(0);
        for (int lists = 0; lists <= 6; lists++) {
            int there = Math.min(lists, 4);
            for (int other = 0; other < there; other++) {
                Check.due(lists + " lists read, compare(" + other + ")", x.compare(other), 0);
            }
            for (int other : new int[] {there, there + 1, 5, -1, -2, MIN, MAX}) {
                Check.dueOutOfBounds(lists + " lists read, compare(" + other + ")", () -> x.compare(other));
            }
            Check.put(x, "net n" + lists + " 1\n");
            x.read();
        }
    }

    private static void otherNames() {
        Check.sentence("8: RENAMED: have other names");
        duePairs("the same name", two("net a 1 p.1\n", "net a 2 p.1\n"), 0, "");
        duePairs("a name that goes on", two("net a 1 p.1\n", "net aa 1 p.1\n"), 0, "0-0");
        duePairs("a name that ends earlier", two("net aa 1 p.1\n", "net a 1 p.1\n"), 0, "0-0");
        duePairs("another case", two("net A 1 p.1\n", "net a 1 p.1\n"), 0, "0-0");
        duePairs("crosswise", two("net a 1 p.1\nnet b 1 p.2\n", "net b 1 p.1\nnet a 1 p.2\n"), 0, "0-0 1-1");
        duePairs("another net's name stays free", two("net a 1 p.1\nnet b 1\n", "net b 1 p.1\nnet a 1\n"), 0, "0-0");
    }

    private static void notWithoutAny() {
        Check.sentence("MATCHED: just the same pins (.. not without any)");
        duePairs("no pins in both", two("net a 1\n", "net b 1\n"), 0, "");
        duePairs("no pins in one", two("net a 1 p.1\n", "net b 1\n"), 0, "");
        duePairs("no pins in the other", two("net a 1\n", "net b 1 p.1\n"), 0, "");
        duePairs("one pin", two("net a 1 p.1\n", "net b 1 p.1\n"), 0, "0-0");
    }

    private static void justTheSamePins() {
        Check.sentence("MATCHED: first those that have just the same pins (parts by their names ..)");
        duePairs("in another order", two("net a 1 p.1 q.2 p.3\n", "net b 1 p.3 p.1 q.2\n"), 0, "0-0");
        duePairs("parts with other numbers", two("part q 1 2\npart p 1 2\nnet a 1 p.1 q.2\n", "net b 1 p.1 q.2\n"), 0, "0-0");
        duePairs("the same numbers of parts", two("net a 1 p.1\n", "net b 1 q.1\n"), 0, "");
        duePairs("other numbers of pins", two("net a 1 p.1\n", "net b 1 p.2\n"), 0, "");
        duePairs("a name that goes on", two("net a 1 p.1\n", "net b 1 pp.1\n"), 0, "");
    }

    private static void samePinsFirst() {
        Check.sentence("MATCHED: first .. then, of those that are left");
        // A pin stands in one net of a list only, so nets with just the same pins have none in common with others.
        duePairs("one pin just the same", two("net x 1 p.1\nnet y 1 p.2 p.3 p.4\n", "net a 1 p.2 p.5\nnet b 1 p.3 p.4\n"
                + "net c 1 p.1\n"), 0, "1-1 2-0");
        duePairs("none just the same", two("net x 1 p.1 p.2\nnet y 1 p.3\n", "net b 1 p.1\nnet a 1 p.3 p.2\n"), 0, "1-0");
    }

    private static void mostPins() {
        Check.sentence("MATCHED: again and again the pair with the most pins in common");
        duePairs("2 ahead of 1", two("net x 1 p.1 p.2 p.3\n", "net a 1 p.1 p.9\nnet b 1 p.2 p.3 p.8\n"), 0, "1-0");
        duePairs("2 ahead of 1 in the other list", two("net x 1 p.1 p.9\nnet y 1 p.2 p.3 p.8\n", "net a 1 p.1 p.2 p.3\n"), 0,
                "0-1");
        duePairs("2 ahead of 1 with a lesser name", two("net x 1 p.1 p.2 p.3\n", "net b 1 p.2 p.3 p.8\nnet a 1 p.1 p.9\n"), 0,
                "0-0");
        duePairs("2 ahead of 1 with a lesser name in the other list", two("net y 1 p.2 p.3 p.8\nnet x 1 p.1 p.9\n",
                "net a 1 p.1 p.2 p.3\n"), 0, "0-0");
        duePairs("what is left", two("net x 1 p.1 p.2 p.3\nnet y 1 p.4 p.9\n", "net a 1 p.1 p.4\nnet b 1 p.2 p.3\n"), 0,
                "0-1 1-0");
    }

    private static void oneAtLeast() {
        Check.sentence("MATCHED: one at least");
        duePairs("none in common", two("net x 1 p.1 p.2\n", "net a 1 p.3 q.1\n"), 0, "");
        duePairs("one in common", two("net x 1 p.1 p.2\n", "net a 1 p.3 p.2\n"), 0, "0-0");
        String forty = "";
        for (int i = 0; i < 40; i++) {
            forty += "part p" + i + " ~ ~~\n";
        }
        duePairs("none in common with 40 parts", two(forty + "net x 1 p1.1\n", forty + "net a 1 p2.1\n"), 0, "");
        duePairs("none left", two("net x 1 p.1 p.2\nnet y 1 q.1\n", "net a 1 p.1\nnet b 1 p.2\n"), 0, "0-0");
    }

    private static void leastOfFirst() {
        Check.sentence("MATCHED: of the same number that whose net of the first list has the least name (by characters)");
        duePairs("the first", two("net x 1 p.1 p.2\n", "net a 1 p.1\nnet b 1 p.2\n"), 0, "0-0");
        duePairs("the second", two("net x 1 p.1 p.2\n", "net b 1 p.1\nnet a 1 p.2\n"), 0, "1-0");
        duePairs("a name that goes on is greater", two("net x 1 p.1 p.2\n", "net aa 1 p.1\nnet a 1 p.2\n"), 0, "1-0");
        duePairs("the first character that differs", two("net x 1 p.1 p.2\n", "net b 1 p.1\nnet az~ 1 p.2\n"), 0, "1-0");
        duePairs("by characters: Z is less than a", two("net x 1 p.1 p.2\n", "net a 1 p.1\nnet Z 1 p.2\n"), 0, "1-0");
        duePairs("by characters: a space is the least", two("net x 1 p.1 p.2\n", "net a! 1 p.1\nnet a\\s 1 p.2\n"), 0, "1-0");
        duePairs("by characters: ~ is the greatest", two("net x 1 p.1 p.2\n", "net ~ 1 p.1\nnet } 1 p.2\n"), 0, "1-0");
        // The first list's name comes ahead of the second list's.
        duePairs("first a, then x", two("net x 1 p.1 p.2\nnet y 1 p.3 p.4\n", "net b 1 p.1 p.3\nnet a 1 p.2 p.4\n"), 0,
                "0-1 1-0");
    }

    private static void leastOfSecond() {
        Check.sentence("MATCHED: then that of the second list");
        duePairs("the first", two("net x 1 p.1\nnet y 1 p.2\n", "net a 1 p.1 p.2\n"), 0, "0-0");
        duePairs("the second", two("net y 1 p.1\nnet x 1 p.2\n", "net a 1 p.1 p.2\n"), 0, "0-1");
        duePairs("a name that goes on is greater", two("net xx 1 p.1\nnet x 1 p.2\n", "net a 1 p.1 p.2\n"), 0, "0-1");
        duePairs("by characters", two("net x 1 p.1\nnet X~ 1 p.2\n", "net a 1 p.1 p.2\n"), 0, "0-1");
    }

    private static void againAndAgain() {
        Check.sentence("MATCHED: again and again (each net once)");
        duePairs("three pairs", two("net x 1 p.1 p.2 p.3\nnet y 1 q.1 q.2\nnet z 1 r.1 s.1\n",
                "net c 1 r.1 t.1\nnet b 1 q.1 p.1\nnet a 1 p.2 p.3 q.2\n"), 0, "0-2 1-1 2-0");
        duePairs("a net that is matched already", two("net x 1 p.1 p.2 p.3\n", "net a 1 p.1\nnet b 1 p.2\nnet c 1 p.3\n"), 0,
                "0-0");
        // a keeps its name, so that b is left with y alone.
        duePairs("matched, but not renamed", two("net a 1 p.1 p.2\nnet y 1 p.3\n", "net a 1 p.1 p.2 p.4\nnet b 1 p.3 q.1\n"), 0,
                "1-1");
    }

    private static void fullLists() {
        Check.sentence("8: how many of the nets (40 of them, 160 pins)");
        FormText other = new FormText(0);
        FormText same = new FormText(0);
        FormText part = new FormText(0);
        for (int i = 0; i < 40; i++) {
            other.net("n" + (i + 10), "1").pins("p" + i, 1, 4);
            same.net("m" + (i + 10), "1").pins("p" + (39 - i), 1, 4);
            part.net("m" + (i + 10), "1").pins("p" + (39 - i), 4, 4);
        }
        NetlistTexts x = two(other.text(), same.text());
        StringBuilder want = new StringBuilder();
        for (int i = 0; i < 40; i++) {
            want.append(i == 0 ? "" : " ").append(i).append('-').append(39 - i);
        }
        duePairs("40 pairs with just the same pins", x, 0, want.toString());
        Check.due("renamed(39, 1)", x.compare(0) == 40 ? x.renamed(39, 1) : -1, 0);
        Check.dueOutOfBounds("renamed(40, 0)", () -> x.renamed(40, 0));
        Check.readNext(x, part.text());
        duePairs("40 pairs with one pin in common", x, 0, want.toString());
        duePairs("itself", x, 2, "");
    }

    /** Neither the pins in common that another compare() counted, nor longer names of lists that went, may show. */
    private static void comparedBefore() {
        Check.sentence("8: Compares the list at hand with another one (whatever was compared before)");
        NetlistTexts x = two("net x 1 p.1 p.2\nnet y 1 p.3\n", "net x 1 q.1\nnet z 1 p.1 q.2\n");
        Check.readNext(x, "net a 1 p.1 p.2\nnet b 1 q.2\n");
        duePairs("compare(0)", x, 0, "0-0");
        duePairs("compare(1)", x, 1, "0-1");
        duePairs("compare(2)", x, 2, "");
        duePairs("compare(0) again", x, 0, "0-0");
        Check.readNext(x, "net c 1 r.1\nnet d 1 r.2\n");
        for (int other = 0; other < 4; other++) {
            duePairs("nothing in common, compare(" + other + ")", x, other, "");
        }
        dueLeastName("net Z! 1 u.1\nnet Z 1 u.2\n", "0-1");
        dueLeastName("net Z 1 u.1\nnet Z! 1 u.2\n", "0-0");
    }

    private static void dueLeastName(String others, String want) {
        NetlistTexts x = new NetlistTexts(0);
        for (int i = 0; i < 6; i++) {
            Check.readNext(x, "net Z~~ 1 p.1 p.2\nnet Z~! 1 p.3\n");
        }
        for (int i = 0; i < 6; i++) {
            Check.readNext(x, others);
        }
        Check.readNext(x, "net A 1 u.1 u.2\n");
        for (int other = 0; other < 3; other++) {
            duePairs("Z is less than Z!, compare(" + other + ")", x, other, want);
        }
    }

    private static void foundLatest() {
        Check.sentence("9: that compare() found latest");
        NetlistTexts x = two("net a 1 p.1\nnet b 1 p.2\n", "net a 1 p.1\nnet c 1 p.2\n");
        Check.readNext(x, "net d 1 p.1\nnet c 1 p.2\n");
        Check.dueOutOfBounds("renamed(0, 0) ahead of compare()", () -> x.renamed(0, 0));
        duePairs("compare(0)", x, 0, "0-0 1-1");
        duePairs("compare(1)", x, 1, "0-0");
        duePairs("compare(2)", x, 2, "");
        duePairs("compare(0) again", x, 0, "0-0 1-1");
        Check.dueOutOfBounds("compare(3)", () -> x.compare(3));
        Check.due("after a refused compare(): renamed(1, 1)", x.renamed(1, 1), 1);
        x.swap(0, 1, 2);
        x.take(0);
        x.clear();
        Check.due("after swap(), take() and clear(): renamed(1, 0)", x.renamed(1, 0), 1);
    }

    private static void byNumbers() {
        Check.sentence("9: by the numbers of nets of the list that was at hand: that net (side 0), the other one (1)");
        NetlistTexts x = two("net w 1 p.4\nnet x 1 p.2\nnet y 1 p.1 p.6\nnet z 1 p.3\n",
                "net c 1 p.3\nnet b 1 p.1 p.5\nnet x 1 p.2\nnet a 1 p.4\n");
        Check.due("compare(0)", x.compare(0), 3);
        int[][] pairs = {{0, 3}, {1, 2}, {3, 0}};
        for (int k = 0; k < 3; k++) {
            Check.due("renamed(" + k + ", 0)", x.renamed(k, 0), pairs[k][0]);
            Check.due("renamed(" + k + ", 1)", x.renamed(k, 1), pairs[k][1]);
        }
    }

    private static void noSuchPair() {
        Check.sentence("9: IndexOutOfBoundsException, when there is none such");
        NetlistTexts x = two("net a 1 p.1\nnet b 1 p.2\n", "net c 1 p.1\nnet d 1 p.2\n");
        for (int k : new int[] {0, 1, -1}) {
            Check.dueOutOfBounds("renamed(" + k + ", 0) ahead of compare()", () -> x.renamed(k, 0));
        }
        Check.due("compare(0)", x.compare(0), 2);
        Check.due("renamed(1, 0)", x.renamed(1, 0), 1);
        for (int k : new int[] {2, 3, 39, 40, -1, -2, MIN, MAX}) {
            Check.dueOutOfBounds("renamed(" + k + ", 0)", () -> x.renamed(k, 0));
            Check.dueOutOfBounds("renamed(" + k + ", 1)", () -> x.renamed(k, 1));
        }
        Check.due("compare(1)", x.compare(1), 0);
        Check.dueOutOfBounds("renamed(0, 0) when none was found", () -> x.renamed(0, 0));
    }

    private static void noSuchSide() {
        Check.sentence("9: or side");
        NetlistTexts x = two("net b 1\nnet a 1 p.1\n", "net c 1 p.1\n");
        x.compare(0);
        Check.due("renamed(0, 0)", x.renamed(0, 0), 0);
        Check.due("renamed(0, 1)", x.renamed(0, 1), 1);
        for (int side : new int[] {-1, 2, 3, MIN, MAX}) {
            Check.dueOutOfBounds("renamed(0, " + side + ")", () -> x.renamed(0, side));
        }
    }

    private static void withRead() {
        Check.sentence("9: (With a read() without a FAULT there are none.)");
        NetlistTexts x = two("net a 1 p.1\n", "net b 1 p.1\n");
        x.compare(0);
        x.unit('?');
        Check.due("read() with a fault", x.read() < 0, true);
        Check.due("renamed(0, 0) after it", x.renamed(0, 0), 0);
        Check.due("renamed(0, 1) after it", x.renamed(0, 1), 0);
        Check.readNext(x, "net b 1 p.1\n");
        Check.dueOutOfBounds("renamed(0, 0) after read()", () -> x.renamed(0, 0));
        Check.due("compare(0)", x.compare(0), 1);
        x.clear();
        Check.due("renamed(0, 0) after clear()", x.renamed(0, 0), 0);
        Check.due("read() of an empty text", x.read(), 0);
        Check.dueOutOfBounds("renamed(0, 0) after read() of an empty text", () -> x.renamed(0, 0));
    }
}
