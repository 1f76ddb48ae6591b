/** Promise 7 (write). */
public final class WriteTest {
    public static void main(String[] args) {
        forms();
        empty();
        longTexts();
        hundredLongTexts();
        afterSwap();
        wrong();
        Check.end("WriteTest");
    }

    private static void forms() {
        NetlistTexts x = Check.reading(1, "(netlist (part \"#a.\" \"\\\\ \\\"\" \"\") (part \"b\" \"x#\" \"#\")"
                + "(net \"n 1\" 3 (pin \"b\" 1) (pin \"#q\" 120) (pin \"#a.\" 34)) (net \".\" 0))");
        Check.due("form 0", Check.written(x, 0), "part #a\\d \\\\\\s\" \\e\npart b x# #\n"
                + "net n\\s1 3 b.1 #q.120 #a\\d.34\nnet \\d 0\n");
        Check.due("form 1", Check.written(x, 1), "(netlist\n(part \"#a.\" \"\\\\ \\\"\" \"\")\n(part \"b\" \"x#\" \"#\")"
                + "\n(net \"n 1\" 3 (pin \"b\" 1) (pin \"#q\" 120) (pin \"#a.\" 34))\n(net \".\" 0))\n");
        Check.due("form 2", Check.written(x, 2), "LONG\nPARTS\n\\ha\\d \\\\\\s\" \\e\nb x# \\h\nNETS\n"
                + "n\\s1 3\n b 1\n \\hq 120\n \\ha\\d 34\n\\d 0\nEND\n");
        Check.due("unknown part stays unwritten", x.unknown(0), 2);
    }

    private static void empty() {
        NetlistTexts x = Check.reading(0, "");
        Check.due("form 0 of nothing", Check.written(x, 0), "");
        Check.due("form 1 of nothing", Check.written(x, 1), "(netlist)\n");
        Check.due("form 2 of nothing", Check.written(x, 2), "LONG\nPARTS\nNETS\nEND\n");
    }

    private static void longTexts() {
        NetlistTexts x = Check.reading(0, "part 123456789 12345678 netnetnet\npart b 123456789 \\s\\s\\s\\s\\s\\s\\s\\s\\d\n"
                + "net other_net 1 unknown_one.1 123456789.2\nnet netnetnet 2 unknown_one.3 #nknown_one.4\n");
        Check.due("long texts by their numbers", Check.written(x, 2), "LONG\n#00 123456789\n#01 netnetnet\n"
                + "#02 \\s\\s\\s\\s\\s\\s\\s\\s\\d\n#03 other_net\n#04 unknown_one\n#05 \\hnknown_one\nPARTS\n"
                + "#00 12345678 #01\nb #00 #02\nNETS\n#03 1\n #04 1\n #00 2\n#01 2\n #04 3\n #05 4\nEND\n");
        NetlistTexts back = Check.reading(2, Check.written(x, 2));
        Check.due("read back", Check.written(back, 0), Check.written(x, 0));
    }

    private static void hundredLongTexts() {
        StringBuilder text = new StringBuilder();
        for (int i = 0; i < 40; i++) {
            text.append("part name_of_" + i + " value_of_" + i + " footprint_" + i + "\n");
        }
        text.append("net name_of_2 1 name_of_39.1\nnet longer_net 2\n");
        NetlistTexts x = Check.reading(0, text.toString());
        String written = Check.written(x, 2);
        Check.due("the hundredth", written.contains("\n#99 name_of_33\nPARTS\n"), true);
        Check.due("its line", written.contains("\n#99 value_of_33 footprint_33\n"), true);
        Check.due("texts behind the hundredth", written.endsWith("\nname_of_39 value_of_39 footprint_39\nNETS\n"
                + "#06 1\n name_of_39 1\nlonger_net 2\nEND\n"), true);
        Check.due("read back", Check.written(Check.reading(2, written), 0), text.toString());
    }

    private static void afterSwap() {
        NetlistTexts x = Check.reading(0, "net n 1 a.1 b.1 a.22\n");
        x.swap(0, 1, 22);
        Check.due("numbers after swap()", Check.written(x, 0), "net n 1 a.22 b.1 a.1\n");
    }

    private static void wrong() {
        NetlistTexts x = Check.reading(0, "net n 1\n");
        Check.due("the last character", x.write(0, 7), 10);
        Check.due("behind the last one", x.write(0, 8), NetlistTexts.NONE);
        Check.due("far behind the last one", x.write(1, Integer.MAX_VALUE), NetlistTexts.NONE);
        Check.dueOutOfBounds("write(0, -1)", () -> x.write(0, -1));
        Check.dueOutOfBounds("write(9, least)", () -> x.write(9, Integer.MIN_VALUE));
        for (int form : new int[] {-1, 3, Integer.MIN_VALUE, Integer.MAX_VALUE}) {
            Check.dueThrow("write(" + form + ", 0)", IllegalArgumentException.class, () -> x.write(form, 0));
        }
        NetlistTexts none = Check.with(0, "?");
        none.read();
        Check.dueThrow("write(0, 0) without a list", IllegalStateException.class, () -> none.write(0, 0));
        Check.dueThrow("write(3, 0) without a list", IllegalStateException.class, () -> none.write(3, 0));
        Check.dueOutOfBounds("write(3, -1) without a list", () -> none.write(3, -1));
    }
}
