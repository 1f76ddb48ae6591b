/** The edges that "Terms" names for TOKEN and the three forms, sentence by sentence. A ^ marks a fault's place. */
public final class EdgeFormsTest {
    private static final String REST = "PARTS\nNETS\nEND\n";

    public static void main(String[] args) {
        tokenCharacters();
        backslashAndPoint();
        escapes();
        hashEscape();
        emptyText();
        plainOrder();
        plainSpaces();
        plainLines();
        listsOrder();
        anyBlanks();
        oneBlankAtLeast();
        quotes();
        longLineNumbers();
        longLineTexts();
        longSections();
        longSpaces();
        references();
        classDigits();
        Check.end("EdgeFormsTest");
    }

    private static String ahead(int form) {
        return form == 0 ? "part " : "LONG\nPARTS\n";
    }

    private static String behind(int form) {
        return form == 0 ? " v f\n" : " v f\nNETS\nEND\n";
    }

    private static void dueName(int form, String token, String name) {
        NetlistTexts x = Check.reading(form, ahead(form) + token + behind(form));
        Check.due("form " + form + ", TOKEN " + token, Check.partText(x, 0, 0), name);
    }

    private static void tokenCharacters() {
        Check.sentence("TOKEN: the characters 33 .. 126 of a text");
        for (int form = 0; form <= 2; form += 2) {
            for (char c = 33; c <= 126; c++) {
                boolean plain = c != '\\' && c != '.';
                if (plain && !(form == 2 && c == '#')) {
                    dueName(form, "" + c, "" + c);
                }
                if (plain) {
                    dueName(form, "x" + c, "x" + c);
                }
            }
            Check.dueFault(form, ahead(form) + "^ v f\n");
            Check.dueFault(form, ahead(form) + "^\n");
            Check.dueFault(form, ahead(form) + "a b^\n");
        }
    }

    private static void backslashAndPoint() {
        Check.sentence("TOKEN: but for \\ (92) and . (46)");
        for (int form = 0; form <= 2; form += 2) {
            Check.dueFault(form, ahead(form) + "^." + behind(form));
            Check.dueFault(form, ahead(form) + "x^." + behind(form));
            Check.dueFault(form, ahead(form) + "x ^. f\n");
            Check.dueFault(form, ahead(form) + "x y^. f\n");
            Check.dueFault(form, ahead(form) + "\\^" + behind(form));
            Check.dueFault(form, ahead(form) + "x\\^" + behind(form));
            Check.dueFault(form, ahead(form) + "x y f\\^\n");
        }
    }

    private static void escapes() {
        Check.sentence("TOKEN: for these stands \\\\ and \\d, for a space \\s");
        for (int form = 0; form <= 2; form += 2) {
            dueName(form, "\\\\", "\\");
            dueName(form, "\\d", ".");
            dueName(form, "\\s", " ");
            dueName(form, "a\\\\b\\dc\\se", "a\\b.c e");
            dueName(form, "\\\\d\\\\s", "\\d\\s");
            for (char c = 32; c <= 126; c++) {
                boolean known = c == '\\' || c == 'd' || c == 's';
                if (!known && c != '^') {
                    Check.dueFault(form, ahead(form) + "x\\^" + c + behind(form));
                }
                boolean knownFirst = known || c == 'e' || form == 2 && c == 'h';
                if (!knownFirst && c != '^') {
                    Check.dueFault(form, ahead(form) + "\\^" + c + behind(form));
                }
            }
        }
    }

    private static void hashEscape() {
        Check.sentence("TOKEN: in form 2 \\h for a # that is the first one");
        dueName(2, "\\h", "#");
        dueName(2, "\\h#", "##");
        dueName(2, "\\h00", "#00");
        dueName(2, "a#", "a#");
        Check.dueFault(2, ahead(2) + "a\\^h" + behind(2));
        Check.dueFault(2, ahead(2) + "\\h\\^h" + behind(2));
        Check.dueFault(0, ahead(0) + "\\^h" + behind(0));
        Check.dueFault(0, ahead(0) + "a\\^h" + behind(0));
        dueName(0, "#", "#");
        dueName(0, "#00", "#00");
    }

    private static void emptyText() {
        Check.sentence("TOKEN: for the empty text \\e");
        for (int form = 0; form <= 2; form += 2) {
            String end = form == 0 ? "\n" : "\nNETS\nEND\n";
            NetlistTexts x = Check.reading(form, ahead(form) + "a \\e \\e" + end);
            Check.due("the value's length", x.part(0, 127), 0);
            Check.due("the footprint's length", x.part(0, 191), 0);
            Check.dueFault(form, ahead(form) + "a ^ f" + end);
            Check.dueFault(form, ahead(form) + "a v ^" + end);
            Check.dueFault(form, ahead(form) + "a \\e^x f" + end);
            Check.dueFault(form, ahead(form) + "a \\e^\\e f" + end);
            Check.dueFault(form, ahead(form) + "a x\\^e f" + end);
            Check.dueFault(form, ahead(form) + "a v \\e^x" + end);
        }
    }

    private static void plainOrder() {
        Check.sentence("FORM 0: first those of parts, then those of nets");
        Check.dueRead(0, "", 0);
        Check.dueRead(0, "part a b c\n", 0);
        Check.dueRead(0, "net a 1\n", 1);
        Check.dueRead(0, "part a b c\npart d e f\nnet a 1\nnet b 1\n", 2);
        Check.dueFault(0, "net a 1\n^part a b c\n");
        Check.dueFault(0, "part a b c\nnet a 1\n^part d b c\n");
        Check.dueFault(0, "^Part a b c\n");
        Check.dueFault(0, "par^ a b c\n");
        Check.dueFault(0, "part^s a b c\n");
        Check.dueFault(0, "ne^ a 1\n");
        Check.dueFault(0, "net^s a 1\n");
    }

    private static void plainSpaces() {
        Check.sentence("FORM 0: one space ahead of each but the first word (none around the point)");
        Check.dueRead(0, "part a b c\nnet n 1 a.1 a.2\n", 1);
        Check.dueFault(0, "^ part a b c\n");
        Check.dueFault(0, "part^\na b c\n");
        Check.dueFault(0, "part ^ a b c\n");
        Check.dueFault(0, "part a ^ b c\n");
        Check.dueFault(0, "part a b ^ c\n");
        Check.dueFault(0, "part a b c^ \n");
        Check.dueFault(0, "^ net n 1\n");
        Check.dueFault(0, "net ^ n 1\n");
        Check.dueFault(0, "net n ^ 1\n");
        Check.dueFault(0, "net n 1 ^\n");
        Check.dueFault(0, "net n 1 ^ a.1\n");
        Check.dueFault(0, "net n 1 a^ .1\n");
        Check.dueFault(0, "net n 1 a.^ 1\n");
        Check.dueFault(0, "net n 1^a.1\n");
        Check.dueFault(0, "net n 1 a.1^a.2\n");
        Check.dueFault(0, "net n 1 a.1 ^ a.2\n");
        Check.dueFault(0, "net n 1 a.1 ^\n");
        Check.dueFault(0, "net n 1 a1^\n");
    }

    private static void plainLines() {
        Check.sentence("LINES end with a line feed (10)");
        Check.dueFault(0, "part a b c^");
        Check.dueFault(0, "net n 1^");
        Check.dueFault(0, "net n 1 a.1^");
        Check.dueFault(0, "^\npart a b c\n");
        Check.dueFault(0, "part a b c\n^\nnet n 1\n");
        Check.dueFault(0, "net n 1\n^\n");
        Check.dueFault(2, "LONG^");
        Check.dueFault(2, "LONG\nPARTS^");
        Check.dueFault(2, "LONG\nPARTS\nNETS^");
        Check.dueFault(2, "LONG\nPARTS\nNETS\nEND^");
        Check.dueRead(2, "LONG\nPARTS\nNETS\nEND\n", 0);
        Check.dueFault(2, "LONG\nPARTS\nNETS\nEND\n^\n");
    }

    private static void listsOrder() {
        Check.sentence("FORM 1: ( netlist PARTS NETS )");
        Check.dueRead(1, "(netlist)", 0);
        Check.dueRead(1, "(netlist(part \"a\" \"\" \"\"))", 0);
        Check.dueRead(1, "(netlist(part \"a\" \"\" \"\")(net \"n\" 1))", 1);
        Check.dueFault(1, "(netlist(net \"n\" 1)(^part \"a\" \"\" \"\"))");
        Check.dueFault(1, "(netlist(net \"n\" 1)^");
        Check.dueFault(1, "(netlist)^)");
        Check.dueFault(1, "(netlist)^(netlist)");
        Check.dueFault(1, "(netlist(p^in \"a\" 1))");
        Check.dueFault(1, "(netlist(net \"n\" 1(p^art \"a\" \"\" \"\")))");
        Check.dueFault(1, "(netlist(net \"n\" 1(^net \"m\" 1)))");
        Check.dueFault(1, "(netlist(net^list))");
        Check.dueFault(1, "(netlist(part \"a\" \"\" \"\" ^\"\"))");
        Check.dueFault(1, "(netlist(part \"a\" \"\"^))");
        Check.dueFault(1, "(netlist(net \"n\"^))");
        Check.dueFault(1, "(netlist(net \"n\" 1(pin \"a\"^)))");
        Check.dueFault(1, "(netlist(net \"n\" 1(pin \"a\" 1 ^2)))");
        Check.dueFault(1, "(n^il)");
    }

    private static void anyBlanks() {
        Check.sentence("FORM 1: any BLANKS (32, 10) ahead of (, of the word behind it, of ), and behind all");
        String[] blanks = {"", " ", "\n", "  ", "\n\n", " \n \n"};
        for (String b : blanks) {
            Check.dueRead(1, b + "(" + b + "netlist" + b + "(" + b + "part \"a\" \"b\" \"c\"" + b + ")" + b + "(" + b
                    + "net \"n\" 1" + b + "(" + b + "pin \"a\" 1" + b + ")" + b + "(" + b + "pin \"a\" 2" + b + ")" + b
                    + ")" + b + "(" + b + "net \"m\" 1" + b + ")" + b + ")" + b, 2);
        }
        Check.dueFault(1, "(net^ list)");
        Check.dueFault(1, "(netlist (pa^ rt \"a\" \"\" \"\"))");
        Check.dueFault(1, "(netlist) ^x");
        Check.dueFault(1, " \n^x(netlist)");
    }

    private static void oneBlankAtLeast() {
        Check.sentence("FORM 1: one BLANK at least ahead of T, CLASS, NUMBER");
        for (String b : new String[] {" ", "\n", "  ", "\n \n"}) {
            Check.dueRead(1, "(netlist(part" + b + "\"a\"" + b + "\"b\"" + b + "\"c\")(net" + b + "\"n\"" + b + "1(pin" + b
                    + "\"a\"" + b + "1)))", 1);
        }
        Check.dueFault(1, "(netlist(part^\"a\" \"b\" \"c\"))");
        Check.dueFault(1, "(netlist(part \"a\"^\"b\" \"c\"))");
        Check.dueFault(1, "(netlist(part \"a\" \"b\"^\"c\"))");
        Check.dueFault(1, "(netlist(net^\"n\" 1))");
        Check.dueFault(1, "(netlist(net \"n\"^1))");
        Check.dueFault(1, "(netlist(net \"n\" 1(pin^\"a\" 1)))");
        Check.dueFault(1, "(netlist(net \"n\" 1(pin \"a\"^1)))");
    }

    private static void quotes() {
        Check.sentence("FORM 1: T in quotes (\"), with \\\" and \\\\ for \" and \\");
        for (char c = 32; c <= 126; c++) {
            if (c != '"' && c != '\\') {
                NetlistTexts x = Check.reading(1, "(netlist(net \"" + c + "\" 1))");
                Check.due("T of " + c, Check.netName(x, 0), "" + c);
                if (c != '^') {
                    Check.dueFault(1, "(netlist(net \"\\^" + c + "\" 1))");
                }
            }
        }
        NetlistTexts x = Check.reading(1, "(netlist(part \"\\\"\" \"\\\\\" \"\\\\\\\"\"))");
        Check.due("\\\"", Check.partText(x, 0, 0), "\"");
        Check.due("\\\\", Check.partText(x, 0, 1), "\\");
        Check.due("both", Check.partText(x, 0, 2), "\\\"");
        Check.dueFault(1, "(netlist(net \"\\^\n\" 1))");
        Check.dueFault(1, "(netlist(net \"a^\n\" 1))");
        Check.dueFault(1, "(netlist(net ^a 1))");
        Check.dueFault(1, "(netlist(net ^'a' 1))");
        Check.dueFault(1, "(netlist(part \"a\" \"\"^\"\"))");
    }

    private static void longLineNumbers() {
        Check.sentence("FORM 2: LINES # TWO DIGITS, numbered 00, 01 and so on");
        StringBuilder longs = new StringBuilder("LONG\n");
        for (int i = 0; i < 100; i++) {
            String line = "#" + i / 10 + i % 10 + " long\\stext" + i + "\n";
            int next = i + 1;
            int tens = next / 10 % 10;
            // The number of the line ahead, where that of the next one is due.
            String same = i % 10 == 9 ? "#^" + i / 10 : "#" + i / 10 + "^" + i % 10;
            longs.append(line);
            if (next < 100) {
                Check.dueFault(2, longs + same);
                Check.dueFault(2, longs + "#" + tens + "^" + (next + 1) % 10);
                Check.dueFault(2, longs + "#^" + (tens + 1) % 10);
            }
            Check.dueRead(2, longs + REST, 0);
        }
        Check.dueFault(2, longs + "^#00 longtextmore\n" + REST);
        Check.dueFault(2, longs + "^#100 longtextmore\n" + REST);
        Check.dueFault(2, "LONG\n#0^1 123456789\n" + REST);
        Check.dueFault(2, "LONG\n#^1");
        Check.dueFault(2, "LONG\n#0^ 123456789\n" + REST);
        Check.dueFault(2, "LONG\n#00^0 123456789\n" + REST);
    }

    private static void longLineTexts() {
        Check.sentence("FORM 2: TOKEN (of a text of more than 8 characters)");
        String[] nine = {"123456789", "\\s\\s\\s\\s\\s\\s\\s\\s\\s", "\\h23456789", "12345678\\d"};
        String[] eight = {"12345678", "\\s\\s\\s\\s\\s\\s\\s\\s", "\\h2345678", "1234567\\d", "1", "\\e", "\\h"};
        for (String text : nine) {
            Check.dueRead(2, "LONG\n#00 " + text + "\n#01 " + text + "\n" + REST, 0);
        }
        for (String text : eight) {
            Check.dueFault(2, "LONG\n#00 ^" + text + "\n" + REST);
            Check.dueFault(2, "LONG\n#00 123456789\n#01 ^" + text + "\n" + REST);
        }
        Check.dueRead(2, "LONG\n#00 " + Check.repeat("x", 24) + "\n" + REST, 0);
        Check.dueFault(2, "LONG\n#00 " + Check.repeat("x", 24) + "^x\n" + REST);
        Check.dueFault(2, "LONG\n#00 ^#23456789\n" + REST);
    }

    private static void longSections() {
        Check.sentence("FORM 2: the LINE LONG, the LINE PARTS, the LINE NETS, the LINE END");
        Check.dueRead(2, "LONG\nPARTS\nNETS\nEND\n", 0);
        Check.dueRead(2, "LONG\nPARTS\na b c\nNETS\nn 1\n a 1\nEND\n", 1);
        Check.dueFault(2, "^PARTS\nNETS\nEND\n");
        Check.dueFault(2, "LONG\n^NETS\nEND\n");
        Check.dueFault(2, "LONG\nPARTS\nEND^\n");
        Check.dueFault(2, "LONG\nPARTS\nNETS\n^");
        Check.dueFault(2, "LONG\nPARTS\nNETS\nEND\n^x");
        Check.dueFault(2, "LONG\nPARTS\nNETS\nEND ^\n");
        Check.dueFault(2, "LONG^S\n");
        Check.dueFault(2, "LONG\nPARTS^ \n");
        for (String wrong : new String[] {"xETS", "NxTS", "NExS", "NETx", "nets", "NET", "NETSS", "END"}) {
            Check.dueFault(2, "LONG\nPARTS\n" + wrong + "^\nEND\n");
        }
        for (String wrong : new String[] {"xND", "ExD", "ENx", "end", "EN", "ENDD", "NETS"}) {
            Check.dueFault(2, "LONG\nPARTS\nNETS\n" + wrong + "^\n");
        }
        // Names may be the words of the sections: only a whole LINE is one.
        Check.dueRead(2, "LONG\nPARTS\nNETS b c\nEND b c\nNETS\nEND 1\n NETS 1\n END 1\nNETS 1\nEND\n", 2);
    }

    private static void longSpaces() {
        Check.sentence("FORM 2: a space between; for each of its pins a LINE: a space, TOKEN, a space, NUMBER");
        String parts = "LONG\nPARTS\n";
        Check.dueFault(2, "LONG\n#00^123456789\n");
        Check.dueFault(2, "LONG\n#00 ^ 123456789\n");
        Check.dueFault(2, "LONG\n#00 123456789^ \n");
        Check.dueFault(2, "LONG\n^ #00 123456789\n");
        Check.dueFault(2, parts + "^ a b c\n");
        Check.dueFault(2, parts + "a ^ b c\n");
        Check.dueFault(2, parts + "a b ^ c\n");
        Check.dueFault(2, parts + "a b c^ \n");
        Check.dueFault(2, parts + "a^\nb c\n");
        Check.dueFault(2, parts + "NETS\n^ a 1\n");
        Check.dueFault(2, parts + "NETS\nn ^ 1\n");
        Check.dueFault(2, parts + "NETS\nn 1^ \n");
        Check.dueFault(2, parts + "NETS\nn 1^ a 1\n");
        Check.dueFault(2, parts + "NETS\nn 1\n ^ a 1\n");
        Check.dueFault(2, parts + "NETS\nn 1\n a ^ 1\n");
        Check.dueFault(2, parts + "NETS\nn 1\n a 1^ \n");
        Check.dueFault(2, parts + "NETS\nn 1\n a^.1\n");
        Check.dueFault(2, parts + "NETS\nn 1\n a 1^ a 2\n");
        Check.dueFault(2, parts + "NETS\nn 1\n ^\n");
        Check.dueFault(2, parts + "NETS\nn 1\n a^\n");
        Check.dueRead(2, parts + "NETS\nn 1\n a 1\n a 2\nm 1\n a 3\nEND\n", 2);
    }

    private static void references() {
        Check.sentence("FORM 2: For a TOKEN behind LONG # and two digits may stand: the text with this number.");
        String longs = "LONG\n#00 longtext0\n#01 longtext1\nPARTS\n";
        NetlistTexts x = Check.reading(2, longs + "#00 #01 #00\n#01 #01 #01\nNETS\n#01 3\n #01 1\n #00 1\n#00 4\nEND\n");
        Check.due("name, value, footprint", Check.written(x, 0), "part longtext0 longtext1 longtext0\n"
                + "part longtext1 longtext1 longtext1\nnet longtext1 3 longtext1.1 longtext0.1\nnet longtext0 4\n");
        NetlistTexts mixed = Check.reading(2, longs + "longtext0 #00 a\nNETS\nn 1\n #00 1\n longtext0 2\n #01 1\nEND\n");
        Check.due("by number and as TOKEN", Check.written(mixed, 0), "part longtext0 longtext0 a\n"
                + "net n 1 longtext0.1 longtext0.2 longtext1.1\n");
        Check.due("unknown(0)", mixed.unknown(0), 1);
        for (String wrong : new String[] {"#^", "#^ ", "#^x", "#0^", "#0^ ", "#0^x", "#^-1", "#00^0", "#01^1", "#00^x",
            "^#02", "^#10", "^#99", "#^/0", "#^:0", "#0^/", "#0^:"}) {
            Check.dueFault(2, longs + wrong);
            Check.dueFault(2, longs + "a " + wrong);
            Check.dueFault(2, longs + "a b " + wrong);
            Check.dueFault(2, longs + "NETS\n" + wrong);
            Check.dueFault(2, longs + "NETS\nn 1\n " + wrong);
        }
    }

    private static void classDigits() {
        Check.sentence("NUMBERS: CLASS one digit");
        Check.dueRead(0, "net n 0\nnet m 9\n", 2);
        Check.dueFault(0, "net n ^\n");
        Check.dueFault(0, "net n 1^0\n");
        Check.dueRead(1, "(netlist(net \"n\" 0)(net \"m\" 9))", 2);
        Check.dueFault(1, "(netlist(net \"n\" ^))");
        Check.dueFault(1, "(netlist(net \"n\" 1^0))");
        Check.dueRead(2, "LONG\nPARTS\nNETS\nn 0\nm 9\nEND\n", 2);
        Check.dueFault(2, "LONG\nPARTS\nNETS\nn ^\n");
        Check.dueFault(2, "LONG\nPARTS\nNETS\nn 1^0\n");
    }
}
