/** The edges that promises 1 (a new object), 2 (unit) and 15 (clear) name, sentence by sentence. */
public final class EdgeObjectTest {
    private static final String[] SMALL = {"net A 3\n", "(netlist(net \"A\" 3))", "LONG\nPARTS\nNETS\nA 3\nEND\n"};

    public static void main(String[] args) {
        noText();
        noLists();
        formBelow();
        formAbove();
        noCharacter();
        fourThousand();
        refusedUnit();
        clearedText();
        listsStay();
        Check.end("EdgeObjectTest");
    }

    private static void noText() {
        Check.sentence("1: No text");
        Check.due("form 0, read()", new NetlistTexts(0).read(), 0);
        Check.due("form 1, read()", new NetlistTexts(1).read(), -1);
        Check.due("form 2, read()", new NetlistTexts(2).read(), -1);
    }

    private static void noLists() {
        Check.sentence("1: no lists");
        for (int form = 0; form <= 2; form++) {
            NetlistTexts x = new NetlistTexts(form);
            Check.dueOutOfBounds("net(0, NONE)", () -> x.net(0, -1));
            Check.dueOutOfBounds("net(0, 0)", () -> x.net(0, 0));
            Check.dueOutOfBounds("pin(0, NONE, 0)", () -> x.pin(0, -1, 0));
            Check.dueOutOfBounds("part(0, 63)", () -> x.part(0, 63));
            Check.dueOutOfBounds("part(0, 0)", () -> x.part(0, 0));
            Check.dueThrow("write(0, 0)", IllegalStateException.class, () -> x.write(0, 0));
            Check.dueOutOfBounds("compare(0)", () -> x.compare(0));
            Check.dueOutOfBounds("compare(NONE)", () -> x.compare(-1));
            Check.dueOutOfBounds("renamed(0, 0)", () -> x.renamed(0, 0));
            Check.dueOutOfBounds("swap(0, 1, 2)", () -> x.swap(0, 1, 2));
            Check.dueOutOfBounds("note(0, 0)", () -> x.note(0, 0));
            Check.dueOutOfBounds("take(0)", () -> x.take(0));
            Check.due("unknown(0)", x.unknown(0), NetlistTexts.NONE);
            Check.dueOutOfBounds("cls(0)", () -> x.cls(0));
        }
    }

    private static void formBelow() {
        Check.sentence("1: A form below 0 is 0");
        for (int form : new int[] {Integer.MIN_VALUE, -2, -1, 0}) {
            Check.due("form " + form + " reads form 0", Check.with(form, SMALL[0]).read(), 1);
            Check.due("form " + form + " reads form 1", Check.with(form, SMALL[1]).read(), -1);
            Check.due("form " + form + " reads form 2", Check.with(form, SMALL[2]).read(), -1);
        }
        Check.due("form 1 reads form 0", Check.with(1, SMALL[0]).read(), -1);
        Check.due("form 1 reads form 1", Check.with(1, SMALL[1]).read(), 1);
        Check.due("form 1 reads form 2", Check.with(1, SMALL[2]).read(), -1);
    }

    private static void formAbove() {
        Check.sentence("1: one above 2 is 2");
        for (int form : new int[] {2, 3, 4, Integer.MAX_VALUE}) {
            Check.due("form " + form + " reads form 0", Check.with(form, SMALL[0]).read(), -1);
            Check.due("form " + form + " reads form 1", Check.with(form, SMALL[1]).read(), -1);
            Check.due("form " + form + " reads form 2", Check.with(form, SMALL[2]).read(), 1);
        }
    }

    private static void noCharacter() {
        Check.sentence("2: False, refused, when it is none (characters: 32 .. 126 or 10)");
        NetlistTexts x = new NetlistTexts(0);
        for (int u : new int[] {10, 32, 33, 125, 126}) {
            Check.due("unit(" + u + ")", x.unit(u), true);
        }
        for (int u : new int[] {9, 11, 0, 13, 31, 127, 128, 255, 256 + 65, 65536 + 65, -1, -10, -126, Integer.MIN_VALUE,
            Integer.MAX_VALUE}) {
            Check.due("unit(" + u + ")", x.unit(u), false);
        }
        for (int form = 0; form <= 2; form++) {
            NetlistTexts all = new NetlistTexts(form);
            for (int u = -200; u < 600; u++) {
                Check.due("form " + form + ", unit(" + u + ")", all.unit(u), u == 10 || u >= 32 && u <= 126);
            }
        }
    }

    private static void fourThousand() {
        Check.sentence("2: False, refused, when there are 4,000");
        for (int form = 0; form <= 2; form++) {
            NetlistTexts x = new NetlistTexts(form);
            for (int i = 1; i <= 4000; i++) {
                Check.due("form " + form + ", character " + i, x.unit(i % 2 == 0 ? 32 : 10), true);
            }
            for (int i = 4001; i <= 4010; i++) {
                Check.due("form " + form + ", character " + i, x.unit(32), false);
            }
            x.clear();
            Check.due("after clear()", x.unit(32), true);
        }
        NetlistTexts blanks = Check.with(1, Check.repeat(" ", 4000));
        blanks.unit('(');
        Check.due("the place behind 4,000 characters", blanks.read(), -4001);
        NetlistTexts whole = Check.with(1, Check.repeat("\n", 3991) + "(netlist)");
        whole.unit('?');
        Check.due("read() of just 4,000 characters", whole.read(), 0);
        NetlistTexts cut = Check.with(1, Check.repeat("\n", 3992) + "(netlist");
        cut.unit(')');
        Check.due("read() where the 4,001st character was refused", cut.read(), -4001);
    }

    private static void refusedUnit() {
        Check.sentence("2: refused (the text stays as it was)");
        NetlistTexts x = new NetlistTexts(0);
        int[] refused = {9, 127, -1, 31, 11, Integer.MAX_VALUE};
        for (int i = 0; i < SMALL[0].length(); i++) {
            Check.due("unit", x.unit(SMALL[0].charAt(i)), true);
            Check.due("unit(" + refused[i % refused.length] + ")", x.unit(refused[i % refused.length]), false);
        }
        Check.due("read()", x.read(), 1);
        Check.due("what was read", Check.written(x, 0), SMALL[0]);
        NetlistTexts y = Check.with(0, "net");
        y.unit(9);
        Check.due("the text's length", y.read(), -4);
    }

    private static void clearedText() {
        Check.sentence("15: There is no text.");
        for (int form = 0; form <= 2; form++) {
            NetlistTexts x = Check.with(form, SMALL[form]);
            x.clear();
            Check.due("form " + form + ", read() of a cleared text", x.read(), form == 0 ? 0 : -1);
            x.clear();
            x.clear();
            Check.put(x, SMALL[form]);
            Check.due("form " + form + ", read() of the next text", x.read(), 1);
            Check.due("form " + form + ", read() without clear() between", x.read(), 1);
            x.unit('?');
            Check.due("form " + form + ", read() of the longer text", x.read(), -1 - SMALL[form].length());
        }
        NetlistTexts empty = new NetlistTexts(1);
        empty.clear();
        Check.due("clear() of a new object", empty.read(), -1);
    }

    private static void listsStay() {
        Check.sentence("15: (Lists stay.)");
        NetlistTexts x = Check.reading(0, "net A 1 p.1\n");
        Check.readNext(x, "part q v f\nnet B 2 p.1 q.2\n");
        x.swap(0, 2, 3);
        Check.due("compare(0)", x.compare(0), 1);
        String seen = Check.seen(x);
        x.clear();
        Check.due("list, notes and renamed pairs", Check.seen(x), seen);
        Check.due("compare(0)", x.compare(0), 1);
        Check.due("compare(1)", x.compare(1), 0);
        Check.dueOutOfBounds("compare(2)", () -> x.compare(2));
        Check.due("take(0)", x.take(0), 1);
        x.clear();
        Check.due("take(1) with the one taken before clear()", x.take(1), 0);
    }
}
