/** Promises 1 (a new object), 2 (unit) and 15 (clear). */
public final class ObjectTest {
    public static void main(String[] args) {
        newObject();
        forms();
        units();
        clearing();
        Check.end("ObjectTest");
    }

    private static void newObject() {
        NetlistTexts x = new NetlistTexts(0);
        Check.due("NONE", NetlistTexts.NONE, -1);
        Check.due("unknown(0) of a new object", x.unknown(0), NetlistTexts.NONE);
        Check.dueOutOfBounds("net(0, -1)", () -> x.net(0, -1));
        Check.dueOutOfBounds("pin(0, -1, 0)", () -> x.pin(0, -1, 0));
        Check.dueOutOfBounds("part(0, 63)", () -> x.part(0, 63));
        Check.dueOutOfBounds("cls(0)", () -> x.cls(0));
        Check.dueOutOfBounds("compare(0)", () -> x.compare(0));
        Check.dueOutOfBounds("renamed(0, 0)", () -> x.renamed(0, 0));
        Check.dueOutOfBounds("swap(0, 1, 2)", () -> x.swap(0, 1, 2));
        Check.dueOutOfBounds("note(0, 0)", () -> x.note(0, 0));
        Check.dueOutOfBounds("take(0)", () -> x.take(0));
        Check.dueThrow("write(0, 0)", IllegalStateException.class, () -> x.write(0, 0));
        Check.due("read() of no text", x.read(), 0);
    }

    private static void forms() {
        String plain = "net A 3\n";
        String lists = "(netlist (net \"A\" 3))";
        String longs = "LONG\nPARTS\nNETS\nA 3\nEND\n";
        int[] asked = {Integer.MIN_VALUE, -1, 0, 1, 2, 3, Integer.MAX_VALUE};
        int[] form = {0, 0, 0, 1, 2, 2, 2};
        for (int i = 0; i < asked.length; i++) {
            Check.due("plain text, form " + asked[i], Check.with(asked[i], plain).read() == 1, form[i] == 0);
            Check.due("lists text, form " + asked[i], Check.with(asked[i], lists).read() == 1, form[i] == 1);
            Check.due("longs text, form " + asked[i], Check.with(asked[i], longs).read() == 1, form[i] == 2);
        }
    }

    private static void units() {
        NetlistTexts x = new NetlistTexts(1);
        for (int u = -3; u < 300; u++) {
            Check.due("unit(" + u + ")", x.unit(u), u == 10 || u >= 32 && u <= 126);
        }
        Check.due("unit(least)", x.unit(Integer.MIN_VALUE), false);
        Check.due("unit(most)", x.unit(Integer.MAX_VALUE), false);
        Check.due("unit(65536 + 65)", x.unit(65536 + 65), false);

        NetlistTexts refused = new NetlistTexts(0);
        Check.put(refused, "net A ");
        refused.unit(9);
        refused.unit(127);
        Check.put(refused, "1\n");
        Check.due("read() with refused characters between", refused.read(), 1);

        NetlistTexts full = new NetlistTexts(1);
        Check.put(full, "(netlist)" + Check.repeat(" ", 3990));
        Check.due("the 4,000th character", full.unit(32), true);
        Check.due("the 4,001st character", full.unit(32), false);
        Check.due("read() of 4,000 characters", full.read(), 0);
    }

    private static void clearing() {
        NetlistTexts x = Check.reading(0, "part R 1 2\nnet A 1 R.1\n");
        x.clear();
        Check.due("name of a net after clear()", Check.netName(x, 0), "A");
        Check.due("compare(0) after clear()", x.compare(0), 0);
        Check.due("read() after clear()", x.read(), 0);
        Check.dueOutOfBounds("net(0, -1) of the empty list", () -> x.net(0, -1));
        x.clear();
        x.clear();
        Check.put(x, "net B 1\n");
        Check.due("read() of the text put in after clear()", x.read(), 1);
        Check.due("its name", Check.netName(x, 0), "B");
    }
}
