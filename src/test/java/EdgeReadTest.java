/** The edges that promise 3 (read) names, sentence by sentence. */
public final class EdgeReadTest {
    public static void main(String[] args) {
        for (int form = 0; form <= 2; form++) {
            howManyNets(form);
            atHand(form);
            faultLeavesLists(form);
            faultLeavesText(form);
            numberedAsRead(form);
            firstOneGoes(form);
            fullAndFault(form);
            fullAndFaultAgain(form);
            manyReads(form);
        }
        inItsForm();
        Check.end("EdgeReadTest");
    }

    /** A list of one net with the pin p.1 of its own name: lists with other names are told apart by compare(). */
    private static String named(int form, String name) {
        return new FormText(form).net(name, "1").pin("p", "1").text();
    }

    private static void inItsForm() {
        Check.sentence("3: Reads the text (in the form with which this was made)");
        for (int made = 0; made <= 2; made++) {
            for (int form = 0; form <= 2; form++) {
                int want = made == form ? 1 : -1;
                Check.due("form " + form + " read in " + made, Check.with(made, named(form, "N")).read(), want);
            }
        }
    }

    private static void howManyNets(int form) {
        Check.sentence("3: to a new LIST: how many nets");
        for (int nets : new int[] {0, 1, 2, 39, 40}) {
            new FormText(form).nets(nets).dueRead(nets);
            new FormText(form).parts(3).nets(nets).dueRead(nets);
        }
    }

    private static void atHand(int form) {
        Check.sentence("3: which is at hand then");
        NetlistTexts x = Check.reading(form, named(form, "A"));
        Check.due("the first list", Check.written(x, 0), "net A 1 p.1\n");
        Check.readNext(x, named(form, "B"));
        Check.due("the second list", Check.written(x, 0), "net B 1 p.1\n");
        Check.readNext(x, new FormText(form).text());
        Check.due("an empty list", Check.written(x, 0), "");
        Check.dueOutOfBounds("net(0, NONE) of an empty list", () -> x.net(0, -1));
        Check.dueOutOfBounds("part(0, 63) of an empty list", () -> x.part(0, 63));
    }

    private static void faultLeavesLists(int form) {
        Check.sentence("3: With a FAULT -1 minus its place (the lists stay).");
        NetlistTexts none = Check.with(form, "?");
        Check.due("a fault at 0", none.read(), -1);
        Check.dueThrow("write(0, 0): no list", IllegalStateException.class, () -> none.write(0, 0));
        Check.dueOutOfBounds("compare(0): no list", () -> none.compare(0));

        NetlistTexts x = Check.reading(form, named(form, "A"));
        Check.readNext(x, named(form, "B"));
        x.swap(0, 1, 2);
        x.swap(0, 2, 1);
        x.compare(0);
        String seen = Check.seen(x);
        String whole = new FormText(form).parts(2).nets(3).pin("p1", "7").text();
        for (int length = 1; length < whole.length(); length++) {
            x.clear();
            Check.put(x, whole.substring(0, length) + "?");
            int fault = x.read();
            Check.due("a fault in <" + whole.substring(0, length) + "?>", fault < 0, true);
            Check.due("the list after it", Check.seen(x), seen);
        }
        Check.due("compare(0)", x.compare(0), 1);
        Check.due("compare(1)", x.compare(1), 0);
        Check.dueOutOfBounds("compare(2)", () -> x.compare(2));
    }

    private static void faultLeavesText(int form) {
        Check.sentence("3: the text stays (only clear() ends it)");
        String whole = named(form, "A");
        NetlistTexts x = Check.with(form, whole.substring(0, whole.length() - 1));
        int fault = x.read();
        if (form != 1) {
            Check.due("the line feed is missing", fault, -whole.length());
        }
        Check.due("the same again", x.read(), fault);
        Check.put(x, whole.substring(whole.length() - 1));
        Check.due("the text with its end", x.read(), 1);
        Check.due("read again", x.read(), 1);
        Check.due("the list", Check.written(x, 0), "net A 1 p.1\n");
    }

    private static void numberedAsRead(int form) {
        Check.sentence("3: LISTS are numbered from 0, as they are read");
        NetlistTexts x = new NetlistTexts(form);
        String names = "ABCD";
        for (int i = 0; i < 4; i++) {
            Check.readNext(x, named(form, names.substring(i, i + 1)));
            for (int other = 0; other <= i; other++) {
                Check.due("list " + i + ", compare(" + other + ")", x.compare(other), other == i ? 0 : 1);
            }
            int next = i + 1;
            Check.dueOutOfBounds("list " + i + ", compare(" + next + ")", () -> x.compare(next));
            Check.dueOutOfBounds("list " + i + ", compare(NONE)", () -> x.compare(-1));
        }
    }

    private static void firstOneGoes(int form) {
        Check.sentence("3: when there are 4, the first one goes, and the others get a number less");
        NetlistTexts x = new NetlistTexts(form);
        for (String name : new String[] {"A", "B", "C", "D"}) {
            Check.readNext(x, named(form, name));
        }
        Check.due("four lists: compare(0) with A", x.compare(0), 1);
        // Which list has which number shows when the list at hand has the same name as one of them.
        dueNumbers(x, form, "A", "1110");
        dueNumbers(x, form, "C", "0110");
        dueNumbers(x, form, "A", "1010");
        dueNumbers(x, form, "B", "1110");
        dueNumbers(x, form, "B", "1100");
    }

    private static void dueNumbers(NetlistTexts x, int form, String name, String want) {
        Check.readNext(x, named(form, name));
        StringBuilder got = new StringBuilder();
        for (int other = 0; other < 4; other++) {
            got.append(x.compare(other));
        }
        Check.due("compare(0 .. 3) of " + name, got.toString(), want);
        Check.dueOutOfBounds("compare(4)", () -> x.compare(4));
    }

    private static void fullAndFault(int form) {
        Check.sentence("3: (the lists stay), when there are 4");
        NetlistTexts x = new NetlistTexts(form);
        for (String name : new String[] {"A", "B", "C", "A"}) {
            Check.readNext(x, named(form, name));
        }
        for (int i = 0; i < 5; i++) {
            x.clear();
            Check.put(x, named(form, "Q") + "?");
            Check.due("read() with a fault", x.read() < 0, true);
            Check.due("compare(0) with A", x.compare(0), 0);
            Check.due("compare(1) with B", x.compare(1), 1);
            Check.due("compare(3) with itself", x.compare(3), 0);
        }
        dueNumbers(x, form, "B", "0110");
    }

    /** The rows of the list that went are those that the next text is read to, be it with a fault. */
    private static void fullAndFaultAgain(int form) {
        Check.sentence("3: (the lists stay), when the first one has gone");
        NetlistTexts x = new NetlistTexts(form);
        for (int lists = 0; lists < 9; lists++) {
            Check.readNext(x, named(form, lists % 2 == 0 ? "A" : "B"));
            for (String wrong : new String[] {named(form, "Q") + "?", "?", named(form, "A") + "?", named(form, "B") + "?"}) {
                x.clear();
                Check.put(x, wrong);
                Check.due("read() with a fault", x.read() < 0, true);
                dueInTurn(x, Math.min(lists + 1, 4));
            }
            Check.due("the list at hand", Check.netName(x, 0), lists % 2 == 0 ? "A" : "B");
        }
    }

    private static void dueInTurn(NetlistTexts x, int lists) {
        for (int other = 0; other < lists; other++) {
            Check.due("of " + lists + " lists in turn, compare(" + other + ")", x.compare(other), (lists - 1 - other) % 2);
        }
    }

    private static void manyReads(int form) {
        Check.sentence("3: the first one goes, again and again");
        NetlistTexts x = new NetlistTexts(form);
        String[] names = {"A", "B", "C", "D", "E", "F", "G"};
        Check.put(x, named(form, "Z"));
        for (int i = 0; i < 300; i++) {
            Check.due("read() " + i, x.read(), 1);
        }
        Check.due("the list", Check.written(x, 0), "net Z 1 p.1\n");
        for (int i = 0; i < 70; i++) {
            Check.readNext(x, named(form, names[i % 7]));
            Check.due("the list at hand", Check.netName(x, 0), names[i % 7]);
            Check.due("compare(3)", x.compare(3), 0);
            Check.due("compare(2)", x.compare(2), 1);
        }
    }
}
