/** The edges that promise 7 (write) and WRITTEN name, sentence by sentence. */
public final class EdgeWriteTest {
    private static final int MIN = Integer.MIN_VALUE;
    private static final int MAX = Integer.MAX_VALUE;
    private static final int NONE = NetlistTexts.NONE;
    private static final String[] WRITTEN = {
        "part a \\e \\\\\nnet n 0 a.1 u.999\nnet \\d 9\n",
        "(netlist\n(part \"a\" \"\" \"\\\\\")\n(net \"n\" 0 (pin \"a\" 1) (pin \"u\" 999))\n(net \".\" 9))\n",
        "LONG\nPARTS\na \\e \\\\\nNETS\nn 0\n a 1\n u 999\n\\d 9\nEND\n"};

    public static void main(String[] args) {
        characters();
        behindTheLast();
        belowZero();
        noList();
        noSuchForm();
        severalWrong();
        order();
        unknownOnes();
        blanks();
        escapes();
        numbers();
        moreThanEight();
        asTheyStandFirst();
        eachOnce();
        hundred();
        largest();
        Check.end("EdgeWriteTest");
    }

    private static NetlistTexts small(int form) {
        return Check.reading(form, WRITTEN[form]);
    }

    private static void characters() {
        Check.sentence("7: The i-th character of the list at hand WRITTEN in a form");
        for (int form = 0; form <= 2; form++) {
            NetlistTexts x = small(form);
            for (int to = 0; to <= 2; to++) {
                for (int i = WRITTEN[to].length() - 1; i >= 0; i--) {
                    Check.due("read in " + form + ", write(" + to + ", " + i + ")", x.write(to, i), WRITTEN[to].charAt(i));
                }
            }
        }
    }

    private static void behindTheLast() {
        Check.sentence("7: NONE behind the last one");
        NetlistTexts x = small(0);
        NetlistTexts empty = new FormText(0).reading();
        int[] none = {0, 10, 20};
        for (int form = 0; form <= 2; form++) {
            int size = WRITTEN[form].length();
            Check.due("write(" + form + ", last)", x.write(form, size - 1), 10);
            for (int i : new int[] {size, size + 1, 4000, 4001, MAX - 1, MAX}) {
                Check.due("write(" + form + ", " + i + ")", x.write(form, i), NONE);
            }
            Check.due("empty list, write(" + form + ", " + none[form] + ")", empty.write(form, none[form]), NONE);
            if (none[form] > 0) {
                Check.due("empty list, the last one", empty.write(form, none[form] - 1), 10);
            }
        }
    }

    private static void belowZero() {
        Check.sentence("7: IndexOutOfBoundsException, when i is below 0");
        NetlistTexts x = small(1);
        for (int form = 0; form <= 2; form++) {
            int to = form;
            for (int i : new int[] {-1, -2, MIN}) {
                Check.dueOutOfBounds("write(" + to + ", " + i + ")", () -> x.write(to, i));
            }
            Check.due("write(" + to + ", 0)", x.write(to, 0), WRITTEN[to].charAt(0));
        }
    }

    private static void noList() {
        Check.sentence("7: IllegalStateException, when no list is at hand");
        for (int form = 0; form <= 2; form++) {
            NetlistTexts x = Check.with(form, "?");
            for (int to = 0; to <= 2; to++) {
                int asked = to;
                Check.dueThrow("write(" + to + ", 0)", IllegalStateException.class, () -> x.write(asked, 0));
                Check.dueThrow("write(" + to + ", MAX)", IllegalStateException.class, () -> x.write(asked, MAX));
            }
            x.read();
            Check.dueThrow("write(0, 0) after a fault", IllegalStateException.class, () -> x.write(0, 0));
            x.clear();
            Check.dueThrow("write(0, 0) after clear()", IllegalStateException.class, () -> x.write(0, 0));
            Check.put(x, WRITTEN[form]);
            Check.dueThrow("write(0, 0) ahead of read()", IllegalStateException.class, () -> x.write(0, 0));
            x.read();
            Check.due("write(0, 0) after read()", x.write(0, 0), 'p');
            x.clear();
            Check.due("write(0, 0) after read() and clear()", x.write(0, 0), 'p');
        }
    }

    private static void noSuchForm() {
        Check.sentence("7: IllegalArgumentException, when form is not 0 .. 2");
        NetlistTexts x = small(2);
        for (int form : new int[] {-1, -2, 3, 4, MIN, MAX}) {
            Check.dueThrow("write(" + form + ", 0)", IllegalArgumentException.class, () -> x.write(form, 0));
            Check.dueThrow("write(" + form + ", MAX)", IllegalArgumentException.class, () -> x.write(form, MAX));
        }
        for (int form = 0; form <= 2; form++) {
            Check.due("write(" + form + ", 1)", x.write(form, 1), WRITTEN[form].charAt(1));
        }
    }

    private static void severalWrong() {
        Check.sentence("7: IndexOutOfBounds, IllegalState, IllegalArgument (in this order)");
        NetlistTexts none = new NetlistTexts(0);
        Check.dueOutOfBounds("write(0, -1) without a list", () -> none.write(0, -1));
        Check.dueOutOfBounds("write(3, -1) without a list", () -> none.write(3, -1));
        Check.dueThrow("write(3, 0) without a list", IllegalStateException.class, () -> none.write(3, 0));
        Check.dueThrow("write(-1, 0) without a list", IllegalStateException.class, () -> none.write(-1, 0));
        NetlistTexts x = small(0);
        Check.dueOutOfBounds("write(3, -1)", () -> x.write(3, -1));
    }

    private static void order() {
        Check.sentence("WRITTEN: parts, then nets, with their pins, in their order");
        for (int form = 0; form <= 2; form++) {
            NetlistTexts x = new FormText(form).part("z", "1", "2").part("a", "3", "4").net("y", "1").pin("a", "2")
                    .pin("z", "3").pin("a", "1").net("b", "2").pin("z", "1").reading();
            Check.due("form 0", Check.written(x, 0), "part z 1 2\npart a 3 4\nnet y 1 a.2 z.3 a.1\nnet b 2 z.1\n");
            Check.due("form 1", Check.written(x, 1), "(netlist\n(part \"z\" \"1\" \"2\")\n(part \"a\" \"3\" \"4\")\n(net \"y\" 1"
                    + " (pin \"a\" 2) (pin \"z\" 3) (pin \"a\" 1))\n(net \"b\" 2 (pin \"z\" 1)))\n");
            Check.due("form 2", Check.written(x, 2), "LONG\nPARTS\nz 1 2\na 3 4\nNETS\ny 1\n a 2\n z 3\n a 1\nb 2\n z 1\nEND\n");
        }
    }

    private static void unknownOnes() {
        Check.sentence("WRITTEN: parts (not UNKNOWN ones)");
        for (int form = 0; form <= 2; form++) {
            NetlistTexts x = new FormText(form).net("n", "1").pin("u", "1").reading();
            Check.due("form 0", Check.written(x, 0), "net n 1 u.1\n");
            Check.due("form 1", Check.written(x, 1), "(netlist\n(net \"n\" 1 (pin \"u\" 1)))\n");
            Check.due("form 2", Check.written(x, 2), "LONG\nPARTS\nNETS\nn 1\n u 1\nEND\n");
            NetlistTexts told = new FormText(form).part("u", "", "").net("n", "1").pin("u", "1").reading();
            Check.due("a part told with empty texts", Check.written(told, 0), "part u \\e \\e\nnet n 1 u.1\n");
        }
    }

    private static void blanks() {
        Check.sentence("WRITTEN: in form 1 with one space ahead of each T, CLASS, NUMBER, .. a line feed behind all");
        NetlistTexts x = Check.reading(1, " ( netlist\n\n( part  \"a\"\n\"b\"  \"c\" )  ( net\n\"n\"  1 ( pin  \"a\"\n\n1 )"
                + "( pin \"a\" 2 ) ) ( net \"m\" 2 ) )  ");
        Check.due("form 1", Check.written(x, 1), "(netlist\n(part \"a\" \"b\" \"c\")\n(net \"n\" 1 (pin \"a\" 1) (pin \"a\" 2))"
                + "\n(net \"m\" 2))\n");
        Check.due("nothing", Check.written(Check.reading(1, "(netlist)"), 1), "(netlist)\n");
    }

    private static void escapes() {
        Check.sentence("WRITTEN: TOKEN and T with their escapes");
        for (char c = 32; c <= 126; c++) {
            if (c == '^' || c == '$') {
                continue;
            }
            String both = "" + c + c;
            NetlistTexts x = new FormText(1).part(both, "" + c, "").reading();
            String token = c == ' ' ? "\\s" : c == '.' ? "\\d" : c == '\\' ? "\\\\" : "" + c;
            String quoted = c == '"' ? "\\\"" : c == '\\' ? "\\\\" : "" + c;
            String first = c == '#' ? "\\h" : token;
            Check.due("form 0 of " + c, Check.written(x, 0), "part " + token + token + " " + token + " \\e\n");
            Check.due("form 1 of " + c, Check.written(x, 1), "(netlist\n(part \"" + quoted + quoted + "\" \"" + quoted
                    + "\" \"\"))\n");
            Check.due("form 2 of " + c, Check.written(x, 2), "LONG\nPARTS\n" + first + token + " " + first
                    + " \\e\nNETS\nEND\n");
        }
    }

    private static void numbers() {
        Check.sentence("WRITTEN: CLASS and NUMBERS: one to three digits");
        for (int number : new int[] {1, 2, 9, 10, 11, 19, 20, 90, 99, 100, 101, 109, 110, 199, 200, 909, 990, 998, 999}) {
            NetlistTexts x = new FormText(0).net("n", "" + number % 10).pin("u", "" + number).reading();
            Check.due("form 0", Check.written(x, 0), "net n " + number % 10 + " u." + number + "\n");
            Check.due("form 1", Check.written(x, 1), "(netlist\n(net \"n\" " + number % 10 + " (pin \"u\" " + number + ")))\n");
            Check.due("form 2", Check.written(x, 2), "LONG\nPARTS\nNETS\nn " + number % 10 + "\n u " + number + "\nEND\n");
        }
    }

    private static void moreThanEight() {
        Check.sentence("WRITTEN: in form 2 texts of more than 8 characters by their numbers");
        for (int form = 0; form <= 2; form++) {
            NetlistTexts x = new FormText(form).part("12345678", "123456789", "        ").net("#2345678", "1")
                    .pin("#23456789", "1").pin("12345678", "1").reading();
            Check.due("8 and 9 characters", Check.written(x, 2), "LONG\n#00 123456789\n#01 \\h23456789\nPARTS\n"
                    + "12345678 #00 \\s\\s\\s\\s\\s\\s\\s\\s\nNETS\n\\h2345678 1\n #01 1\n 12345678 1\nEND\n");
            NetlistTexts spaces = new FormText(form).part("a", "         ", "").reading();
            Check.due("9 spaces", Check.written(spaces, 2), "LONG\n#00 \\s\\s\\s\\s\\s\\s\\s\\s\\s\nPARTS\na #00 \\e\nNETS\nEND\n");
            Check.due("form 0 has no numbers", Check.written(spaces, 0), "part a \\s\\s\\s\\s\\s\\s\\s\\s\\s \\e\n");
        }
    }

    private static void asTheyStandFirst() {
        Check.sentence("WRITTEN: as they stand first");
        NetlistTexts x = new FormText(0).part("name_one_", "value_one", "foot_one_").part("name_two_", "value_two", "x")
                .net("net_one__", "1").pin("unknown_b", "1").pin("name_two_", "1").net("net_two__", "1")
                .pin("unknown_a", "1").reading();
        Check.due("form 2", Check.written(x, 2), "LONG\n#00 name_one_\n#01 value_one\n#02 foot_one_\n#03 name_two_\n"
                + "#04 value_two\n#05 net_one__\n#06 unknown_b\n#07 net_two__\n#08 unknown_a\nPARTS\n#00 #01 #02\n#03 #04 x\n"
                + "NETS\n#05 1\n #06 1\n #03 1\n#07 1\n #08 1\nEND\n");
    }

    private static void eachOnce() {
        Check.sentence("WRITTEN: (each text once ..)");
        NetlistTexts x = new FormText(0).part("same_text", "same_text", "same_text").part("b", "same_text", "same_tex2")
                .net("same_text", "1").pin("same_text", "1").pin("same_text", "2").pin("same_tex2", "1").reading();
        Check.due("form 2", Check.written(x, 2), "LONG\n#00 same_text\n#01 same_tex2\nPARTS\n#00 #00 #00\nb #00 #01\nNETS\n"
                + "#00 1\n #00 1\n #00 2\n #01 1\nEND\n");
    }

    private static String longText(int i) {
        return "longtext" + (char) ('0' + i / 10) + (char) ('0' + i % 10);
    }

    /** A list with so many long texts, those from the 100th on as parts' names, nets' names, pins' parts in turn. */
    private static NetlistTexts longTexts(int count) {
        FormText text = new FormText(0);
        for (int k = 0; k < 33; k++) {
            text.part(longText(3 * k), longText(3 * k + 1), longText(3 * k + 2));
        }
        for (int i = 99; i < count; i++) {
            text.net(longText(i), "1");
            text.pin(longText(99), "" + (i - 98));
        }
        return text.reading();
    }

    private static void hundred() {
        Check.sentence("WRITTEN: (.. a hundred of them, others as TOKENS)");
        for (int count = 99; count <= 103; count++) {
            StringBuilder want = new StringBuilder("LONG\n");
            for (int i = 0; i < count && i < 100; i++) {
                want.append('#').append(i / 10).append(i % 10).append(' ').append(longText(i)).append('\n');
            }
            want.append("PARTS\n");
            for (int i = 0; i < 99; i++) {
                want.append('#').append(i / 10).append(i % 10).append(i % 3 == 2 ? '\n' : ' ');
            }
            want.append("NETS\n");
            for (int i = 99; i < count; i++) {
                want.append(i < 100 ? "#99" : longText(i)).append(" 1\n #99 ").append(i - 98).append('\n');
            }
            want.append("END\n");
            NetlistTexts x = longTexts(count);
            Check.due(count + " long texts", Check.written(x, 2), want.toString());
            NetlistTexts back = Check.reading(2, want.toString());
            Check.due(count + " long texts read back", Check.written(back, 1), Check.written(x, 1));
        }
        NetlistTexts others = longTexts(101);
        Check.due("101 long texts", others.write(2, 0), 'L');
        Check.readNext(others, "net a 1\n");
        Check.due("the next list", Check.written(others, 2), "LONG\nPARTS\nNETS\na 1\nEND\n");
        Check.readNext(others, "net longtext01 1\n");
        Check.due("the next one", Check.written(others, 2), "LONG\n#00 longtext01\nPARTS\nNETS\n#00 1\nEND\n");
        Check.readNext(others, "net longtext02 1\n");
        Check.due("one more", Check.written(others, 2), "LONG\n#00 longtext02\nPARTS\nNETS\n#00 1\nEND\n");
    }

    /** As many characters as a list can be written in: more than a text may have. */
    private static void largest() {
        Check.sentence("7: The i-th character .. (of more than 4,000)");
        StringBuilder text = new StringBuilder("(netlist");
        for (int i = 0; i < 30; i++) {
            String name = Check.repeat(" ", 22) + i / 10 + i % 10;
            String spaces = Check.repeat(" ", 24);
            text.append("(part \"" + name + "\" \"" + spaces + "\" \"" + spaces + "\")");
        }
        NetlistTexts x = Check.reading(1, text + ")");
        StringBuilder want = new StringBuilder();
        for (int i = 0; i < 30; i++) {
            want.append("part " + Check.repeat("\\s", 22) + i / 10 + i % 10 + " " + Check.repeat("\\s", 24) + " "
                    + Check.repeat("\\s", 24) + "\n");
        }
        Check.due("more than 4,000", want.length() > 4000, true);
        Check.due("form 0", Check.written(x, 0), want.toString());
        Check.due("behind the last one", x.write(0, want.length()), NONE);
    }
}
