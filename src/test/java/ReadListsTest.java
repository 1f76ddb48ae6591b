/** Promise 3, form 1. A ^ marks the place where a fault is due. */
public final class ReadListsTest {
    public static void main(String[] args) {
        contents();
        blanks();
        words();
        quotes();
        names();
        pins();
        limits();
        Check.end("ReadListsTest");
    }

    private static void contents() {
        NetlistTexts x = Check.reading(1, "(netlist (part \"a\" \"\\\"\" \"\")(net \"n.#\" 3"
                + " (pin \"a\" 1 ) (pin \"\\\\ b\" 12)))");
        Check.due("name of part 0", Check.partText(x, 0, 0), "a");
        Check.due("value of part 0", Check.partText(x, 0, 1), "\"");
        Check.due("footprint of part 0", Check.partText(x, 0, 2), "");
        Check.due("name of part 1", Check.partText(x, 1, 0), "\\ b");
        Check.due("unknown(0)", x.unknown(0), 1);
        Check.due("net 0", Check.netName(x, 0), "n.#");
        Check.due("class of net 0", x.cls(0), 3);
        Check.due("pins of net 0", Check.pins(x, 0), "a/1 \\ b/12");
    }

    private static void blanks() {
        Check.dueRead(1, "(netlist)", 0);
        Check.dueRead(1, " \n( \nnetlist \n) \n", 0);
        Check.dueRead(1, "(netlist(part \"a\" \"b\" \"c\")(net \"n\" 1(pin \"a\" 1)(pin \"a\" 2))(net \"m\" 0))", 2);
        Check.dueRead(1, "\n ( \nnetlist \n( \npart \n\"a\" \n\"b\" \n\"c\" \n) \n( \nnet \n\"n\" \n1"
                + " \n( \npin \n\"a\" \n1 \n) \n) \n) \n", 1);
        Check.dueFault(1, "(netlist (part^\"a\" \"b\" \"c\"))");
        Check.dueFault(1, "(netlist (part \"a\"^\"b\" \"c\"))");
        Check.dueFault(1, "(netlist (part \"a\" \"b\"^\"c\"))");
        Check.dueFault(1, "(netlist (net^\"a\" 1))");
        Check.dueFault(1, "(netlist (net \"a\"^1))");
        Check.dueFault(1, "(netlist (net \"a\" 1 (pin^\"a\" 1)))");
        Check.dueFault(1, "(netlist (net \"a\" 1 (pin \"a\"^1)))");
    }

    private static void words() {
        Check.dueFault(1, "^");
        Check.dueFault(1, " \n^");
        Check.dueFault(1, "^netlist");
        Check.dueFault(1, "(^)");
        Check.dueFault(1, "(net^)");
        Check.dueFault(1, "(netlist^");
        Check.dueFault(1, "(netlist^x)");
        Check.dueFault(1, "(netlist ^x)");
        Check.dueFault(1, "(netlist (^)");
        Check.dueFault(1, "(netlist (p^in");
        Check.dueFault(1, "(netlist (^q");
        Check.dueFault(1, "(netlist) ^)");
        Check.dueFault(1, "(netlist (part \"a\" \"b\"^)");
        Check.dueFault(1, "(netlist (part \"a\" \"b\" ^)");
        Check.dueFault(1, "(netlist (part \"a\" \"b\" \"c\" ^\"d\")");
        Check.dueFault(1, "(netlist (part \"a\" \"b\" \"c\"^(");
        Check.dueFault(1, "(netlist (net \"n\" 1) (^part \"a\" \"b\" \"c\"))");
        Check.dueFault(1, "(netlist (net \"n\" ^x");
        Check.dueFault(1, "(netlist (net \"n\" 1^2)");
        Check.dueFault(1, "(netlist (net \"n\" 1 ^2)");
        Check.dueFault(1, "(netlist (net \"n\" 1 (^net");
        Check.dueFault(1, "(netlist (net \"n\" 1 (p^art");
        Check.dueFault(1, "(netlist (net \"n\" 1)^");
        Check.dueFault(1, "(netlist (net \"n\" 1))\n^a");
    }

    private static void quotes() {
        String most = Check.repeat("x", 24);
        Check.dueRead(1, "(netlist (net \"" + most + "\" 1))", 1);
        Check.dueRead(1, "(netlist (net \"" + Check.repeat("\\\"", 24) + "\" 1))", 1);
        Check.dueFault(1, "(netlist (net \"" + most + "^x\" 1))");
        Check.dueFault(1, "(netlist (net \"" + most + "^\\\\\" 1))");
        Check.dueFault(1, "(netlist (part \"a\" \"" + most + "^\\\"");
        Check.dueFault(1, "(netlist (net \"" + most + "^");
        Check.dueFault(1, "(netlist (net \"a^\n\" 1))");
        Check.dueFault(1, "(netlist (net \"a^");
        Check.dueFault(1, "(netlist (net \"^");
        Check.dueFault(1, "(netlist (net \"\\^");
        Check.dueFault(1, "(netlist (net \"\\^d");
        Check.dueFault(1, "(netlist (net \"\\^\n");
        Check.dueFault(1, "(netlist (net ^a");
    }

    private static void names() {
        Check.dueFault(1, "(netlist (part ^\"\"");
        Check.dueFault(1, "(netlist (net ^\"\" ");
        Check.dueFault(1, "(netlist (net \"n\" 1 (pin ^\"\"");
        Check.dueFault(1, "(netlist (part \"a\" \"\" \"\") (part ^\"a\"");
        Check.dueFault(1, "(netlist (part \"a\" \"\" \"\") (part \n ^\"a\"x");
        Check.dueFault(1, "(netlist (part \"a\" \"\" \"\") (part \"a^");
        Check.dueFault(1, "(netlist (net \"a\" 1) (net ^\"a\" 1))");
        Check.dueRead(1, "(netlist (part \"a\" \"a\" \"a\") (net \"a\" 1) (net \"a \" 1))", 2);
    }

    private static void pins() {
        String start = "(netlist (net \"n\" 1 (pin \"q\" 123) (pin \"q\" 1)";
        Check.dueRead(1, start + "))", 1);
        Check.dueFault(1, start + "(pin ^\"q\" 1");
        Check.dueFault(1, start + "(pin ^\"q\" 1)");
        Check.dueFault(1, start + "(pin ^\"q\" 1x");
        Check.dueFault(1, start + "(pin ^\"q\" 123");
        Check.dueFault(1, start + "(pin \"q\" 123^4");
        Check.dueFault(1, start + "(pin \"q\" ^0");
        Check.dueFault(1, start + "(pin \"q\" ^)");
        Check.dueFault(1, start + "(pin \"q\" 12^");
        Check.dueFault(1, start + "(pin \"q\" 12^(");
        Check.dueFault(1, start + "(pin \"q\" 12 ^3");
        Check.dueFault(1, start + ") (net \"m\" 2 (pin ^\"q\" 1)");
    }

    private static void limits() {
        String parts = items("(part \"n", 40, "\" \"\" \"\")");
        String nets = items("(net \"n", 40, "\" 1)");
        Check.dueRead(1, "(netlist" + parts + nets + ")", 40);
        Check.dueFault(1, "(netlist" + parts + "(part ^\"x\"");
        Check.dueFault(1, "(netlist" + nets + "(net ^\"x\"");
        Check.dueFault(1, "(netlist" + parts + nets + "(net ^\"x\"");
        Check.dueFault(1, "(netlist" + parts + "(net \"n\" 1 (pin \"n3\" 1) (pin ^\"x\"");
        String pins = pinItems(160);
        Check.dueRead(1, "(netlist(net \"n\" 1" + pins + "))", 1);
        Check.dueFault(1, "(netlist(net \"n\" 1" + pins + "(pin ^\"b\" 1");
        Check.dueFault(1, "(netlist(net \"n\" 1" + pins + "(pin \"b\" ^0");
    }

    private static String items(String ahead, int count, String behind) {
        StringBuilder all = new StringBuilder();
        for (int i = 0; i < count; i++) {
            all.append(ahead).append(i).append(behind);
        }
        return all.toString();
    }

    private static String pinItems(int count) {
        StringBuilder all = new StringBuilder();
        for (int i = 1; i <= count; i++) {
            all.append("(pin \"a\" ").append(i).append(')');
        }
        return all.toString();
    }
}
