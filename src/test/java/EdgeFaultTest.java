/** Each case of "A FAULT's place", in the three forms. A ^ marks the place; FormText tells what ^ and $ do. */
public final class EdgeFaultTest {
    private static final String MOST = "abcdefghijklmnopqrstuvwx";
    private static final String[] WHOLE = {
        "part a b \\e\npart \\d c d\nnet n 1 a.1 u.23\nnet m 9\n",
        " (\nnetlist (part \"a\" \"\\\"\" \"\")(net \"n\" 1 (pin \"a\" 1)(pin \"u\" 23))\n(net \"m\" 9) ) \n",
        "LONG\n#00 123456789\nPARTS\na #00 \\e\n\\hb c d\nNETS\nn 1\n a 1\n #00 23\nm 9\nEND\n"};

    public static void main(String[] args) {
        firstWrongCharacter();
        textsLength();
        for (int form = 0; form <= 2; form++) {
            emptyName(form);
            nameThereAlready(form);
            onePartTooMany(form);
            oneNetTooMany(form);
            askedWhenEnded(form);
            pinTwice(form);
            onePinTooMany(form);
            digitTooMany(form);
            character25(form);
        }
        unclosedQuotes();
        noSuchNumber();
        shortLongText();
        Check.end("EdgeFaultTest");
    }

    private static FormText text(int form) {
        return new FormText(form);
    }

    private static void firstWrongCharacter() {
        Check.sentence("FAULT: that of the first character with which no such text goes on");
        for (int form = 0; form <= 2; form++) {
            Check.due("the whole text, form " + form, Check.with(form, WHOLE[form]).read(), 2);
        }
        Check.dueFault(0, WHOLE[0] + "^?");
        Check.dueFault(1, WHOLE[1] + "^?");
        Check.dueFault(2, WHOLE[2] + "^?");
        Check.dueFault(0, "^?" + WHOLE[0]);
        Check.dueFault(1, "^?" + WHOLE[1]);
        Check.dueFault(2, "^?" + WHOLE[2]);
        Check.dueFault(0, "^(");
        Check.dueFault(1, "^p");
        Check.dueFault(2, "^p");
        // Two wrong characters: the first one is told.
        Check.dueFault(0, "part a b^\nnet n ?\n");
        Check.dueFault(1, "(netlist(part \"a\" ^?(net ?");
        Check.dueFault(2, "LONG\nPARTS\na b^\nNETS\nn ?\n");
    }

    private static void textsLength() {
        Check.sentence("FAULT: or the text's length");
        // Cut off anywhere; where form 0 has a whole line, what stands there is a whole text.
        for (int form = 0; form <= 2; form++) {
            for (int length = 0; length < WHOLE[form].length(); length++) {
                String cut = WHOLE[form].substring(0, length);
                boolean whole = form == 0 && (cut.isEmpty() || cut.endsWith("\n"))
                        || form == 1 && cut.trim().endsWith(")") && cut.trim().equals(WHOLE[form].trim());
                int nets = cut.isEmpty() ? 0 : cut.split("net ", -1).length - 1;
                boolean shortLong = form == 2 && length > 9 && length < 18;
                int want = whole ? form == 1 ? 2 : nets : shortLong ? -1 - 9 : -1 - length;
                Check.due("form " + form + ", read() of <" + cut + ">", Check.with(form, cut).read(), want);
            }
        }
    }

    private static void emptyName(int form) {
        Check.sentence("FAULT: for a name that is empty that of the first character of its TOKEN (or T: of the quote)");
        text(form).part("^", "b", "c").dueFault();
        text(form).part("^$", "b", "c").dueFault();
        text(form).part("^$", "b", "c").dueFaultWith("?");
        text(form).part("^$", "b", "c").dueFaultWith("\n");
        text(form).part("a", "", "").part("^", "", "").dueFault();
        text(form).net("^", "1").dueFault();
        text(form).net("^$", "1").dueFault();
        text(form).net("^$", "1").dueFaultWith("?");
        text(form).net("n", "1").net("^", "1").dueFault();
        text(form).net("n", "1").pin("^", "1").dueFault();
        text(form).net("n", "1").pin("^$", "1").dueFault();
        text(form).net("n", "1").pin("^$", "1").dueFaultWith("?");
        text(form).net("n", "1").pin("a", "1").pin("^", "0").dueFault();
        text(form).part("a", "", "").dueRead(0);
    }

    private static void nameThereAlready(int form) {
        Check.sentence("FAULT: or there already (of parts told, of nets)");
        text(form).part("a", "b", "c").part("^a", "b", "c").dueFault();
        text(form).part("a", "b", "c").part("^a$", "b", "c").dueFault();
        text(form).part("a", "b", "c").part("^a$", "b", "c").dueFaultWith("\n");
        text(form).part("a", "b", "c").part("^a", "b", "c$").dueFaultWith("?");
        text(form).part(" .", "", "").part("^ .", "", "").dueFault();
        text(form).part("a", "b", "c").part("ab", "b", "c").part("^ab", "b", "c").dueFault();
        text(form).net("n", "1").net("^n", "1").dueFault();
        text(form).net("n", "1").net("^n$", "1").dueFault();
        text(form).net("n", "1").net("^n$", "1").dueFaultWith("\n");
        text(form).net("n", "1").net("m", "1").net("^n", "x").dueFault();
        // A pin's part may be there already, told or not; a net may have a part's name.
        text(form).part("a", "b", "c").net("a", "1").pin("a", "1").pin("u", "1").pin("u", "2").net("u", "1").dueRead(2);
    }

    private static void onePartTooMany(int form) {
        Check.sentence("FAULT: or of one part too many");
        text(form).parts(40).dueRead(0);
        text(form).parts(40).part("^x", "", "").dueFault();
        text(form).parts(40).part("^x$", "", "").dueFault();
        text(form).parts(40).part("^x$", "", "").dueFaultWith("\n");
        text(form).parts(40).part("^x", "", MOST + MOST).dueFault();
        text(form).parts(40).net("n", "1").pin("p39", "1").dueRead(1);
        text(form).parts(40).net("n", "1").pin("^x", "1").dueFault();
        text(form).parts(40).net("n", "1").pin("^x$", "1").dueFault();
        text(form).parts(40).net("n", "1").pin("^x", "0").dueFault();
        text(form).parts(39).net("n", "1").pin("x", "1").pin("x", "2").pin("^y", "1").dueFault();
    }

    private static void oneNetTooMany(int form) {
        Check.sentence("FAULT: or of one net too many");
        text(form).nets(40).dueRead(40);
        text(form).nets(40).net("^x", "1").dueFault();
        text(form).nets(40).net("^x$", "1").dueFault();
        text(form).nets(40).net("^x$", "1").dueFaultWith("\n");
        text(form).nets(40).net("^x", "?").dueFault();
        text(form).nets(40).net("^n0", "1").dueFault();
    }

    private static void askedWhenEnded(int form) {
        Check.sentence("FAULT: (asked when it has ended, also by the text's end)");
        // A wrong character within the name comes ahead of what is asked at its end.
        dueWithin(form, text(form).part("a", "", "").part("a$", "", ""));
        dueWithin(form, text(form).net("a", "1").net("a$", "1"));
        dueWithin(form, text(form).parts(40).part("x$", "", ""));
        dueWithin(form, text(form).nets(40).net("x$", "1"));
        dueWithin(form, text(form).parts(40).net("n", "1").pin("x$", "1"));
        text(form).part(MOST, "", "").part(MOST + "^y", "", "").dueFault();
        text(form).parts(40).part(MOST + "^y", "", "").dueFault();
        text(form).nets(40).net(MOST + "^y$", "1").dueFault();
        // A name that goes on behind one that is there already is another name.
        text(form).part("a", "", "").part("ab", "", "").dueRead(0);
        text(form).net("a", "1").net("ab", "1").dueRead(2);
        text(form).net("n", "1").pin("a", "1").pin("a", "12").pin("a", "123").dueRead(1);
    }

    /** The name with which the text was cut off goes on with a wrong escape: its letter is told, or the end. */
    private static void dueWithin(int form, FormText cut) {
        String text = cut.text();
        String begun = form == 1 ? text.substring(0, text.length() - 1) : text;
        Check.dueFault(form, begun + "\\^?");
        Check.dueFault(form, begun + "\\^");
    }

    private static void pinTwice(int form) {
        Check.sentence("FAULT: for a pin that stands twice that of its part's TOKEN (or T)");
        text(form).net("n", "1").pin("a", "1").pin("^a", "1").dueFault();
        text(form).net("n", "1").pin("a", "1").pin("^a", "1$").dueFault();
        text(form).net("n", "1").pin("a", "1").pin("^a", "1$").dueFaultWith("?");
        text(form).net("n", "1").pin("a", "12").pin("^a", "12$").dueFaultWith("x");
        text(form).net("n", "1").pin("a", "1").pin("a", "^x").dueFault();
        text(form).net("n", "1").pin("a", "1").pin("a", "^0").dueFault();
        text(form).net("n", "1").pin("a", "1").pin("a", "^$").dueFault();
        text(form).part("a", "", "").net("n", "1").pin("a", "1").net("m", "1").pin("^a", "1").dueFault();
        text(form).net("n", "1").pin("a", "1").pin("a", "2").pin("^a", "2").dueFault();
    }

    private static void onePinTooMany(int form) {
        Check.sentence("FAULT: for a pin that is one too many that of its part's TOKEN (or T)");
        text(form).net("n", "1").pins("a", 1, 160).dueRead(1);
        text(form).net("n", "1").pins("a", 1, 160).pin("^a", "161").dueFault();
        text(form).net("n", "1").pins("a", 1, 160).pin("^a", "161$").dueFault();
        text(form).net("n", "1").pins("a", 1, 160).pin("^a", "16$").dueFaultWith("?");
        text(form).net("n", "1").pins("a", 1, 160).pin("^b", "1").dueFault();
        text(form).net("n", "1").pins("a", 1, 160).pin("b$", "1").dueFaultWith("^");
        text(form).net("n", "1").pins("a", 1, 160).pin("b", "^0").dueFault();
        text(form).net("n", "1").pins("a", 1, 160).pin("b", "^$").dueFault();
        text(form).net("n", "1").pins("a", 1, 160).net("m", "1").pin("^a", "161").dueFault();
    }

    private static void digitTooMany(int form) {
        Check.sentence("FAULT: a digit too many of a pin's NUMBER is told ahead of that, at itself");
        text(form).net("n", "1").pin("a", "123").dueRead(1);
        text(form).net("n", "1").pin("a", "123^4").dueFault();
        text(form).net("n", "1").pin("a", "123^4$").dueFault();
        text(form).net("n", "1").pin("a", "123").pin("a", "123^4").dueFault();
        text(form).net("n", "1").pin("a", "123").pin("a", "123^4$").dueFault();
        text(form).net("n", "1").pin("a", "123").pin("a", "123^0").dueFault();
        text(form).net("n", "1").pin("a", "123").pin("^a", "123$").dueFaultWith("x");
        text(form).net("n", "1").pins("a", 1, 160).pin("a", "161^0").dueFault();
        text(form).net("n", "1").pins("a", 1, 160).pin("a", "160^0").dueFault();
        text(form).net("n", "1").pin("a", "12").pin("a", "120").dueRead(1);
    }

    private static void character25(int form) {
        Check.sentence("FAULT: for a 25th character that (or its \\)");
        for (String wrong : new String[] {MOST + "^y", MOST + "^y$", MOST + "^\\", MOST + "^\\z", MOST + "^yz"}) {
            text(form).part(wrong, "", "").dueFault();
            text(form).part("a", wrong, "").dueFault();
            text(form).part("a", "", wrong).dueFault();
            text(form).net(wrong, "1").dueFault();
            text(form).net("n", "1").pin(wrong, "1").dueFault();
        }
        text(form).net(MOST, "1").pin(MOST, "1").dueRead(1);
        String quote = form == 1 ? "\"" : "";
        String start = form == 0 ? "net " : form == 1 ? "(netlist(net " : "LONG\nPARTS\nNETS\n";
        Check.dueFault(form, start + quote + MOST + "^\\");
        Check.dueFault(form, start + quote + MOST + "^\\?");
        Check.dueFault(form, start + quote + MOST.substring(1) + "\\\\^\\\\");
        Check.dueFault(form, start + quote + MOST.substring(1) + "\\^");
        Check.dueFault(form, start + quote + MOST.substring(1) + "\\^?");
        Check.dueFault(form, start + quote + MOST + "^");
    }

    private static void unclosedQuotes() {
        Check.sentence("FAULT: a T ends with its quote");
        Check.dueFault(1, "(netlist(part \"^");
        Check.dueFault(1, "(netlist(part \"a\" \"\" \"\")(part \"a^");
        Check.dueFault(1, "(netlist(part \"a\" \"\" \"\")(part ^\"a\"");
        Check.dueFault(1, "(netlist(net \"a\" 1)(net \"a^");
        Check.dueFault(1, "(netlist(net \"a\" 1)(net ^\"a\"");
        Check.dueFault(1, "(netlist(net \"a\" 1(pin \"^");
        Check.dueFault(1, "(netlist(net \"a\" 1(pin ^\"\"");
    }

    private static void noSuchNumber() {
        Check.sentence("FAULT: for a # with a number that there is not that #");
        String none = "LONG\nPARTS\n";
        StringBuilder longs = new StringBuilder("LONG\n");
        for (int i = 0; i < 11; i++) {
            longs.append('#').append(i / 10).append(i % 10).append(" 123456789\n");
        }
        String eleven = longs + "PARTS\n";
        Check.dueFault(2, none + "^#00");
        Check.dueFault(2, none + "a ^#00 c\n");
        Check.dueFault(2, none + "a b ^#00\n");
        Check.dueFault(2, none + "NETS\n^#00 1\n");
        Check.dueFault(2, none + "NETS\nn 1\n ^#00 1\n");
        Check.dueFault(2, none + "^#00?");
        Check.dueRead(2, eleven + "#10 #09 #00\nNETS\n#10 1\n #10 1\nEND\n", 1);
        Check.dueFault(2, eleven + "^#11 b c\n");
        Check.dueFault(2, eleven + "a ^#11 c\n");
        Check.dueFault(2, eleven + "a b ^#99\n");
        Check.dueFault(2, eleven + "NETS\n^#11 1\n");
        Check.dueFault(2, eleven + "NETS\nn 1\n ^#11 1\n");
        Check.dueFault(2, eleven + "NETS\nn 1\n ^#11");
        // The long texts of the text before are there no more.
        NetlistTexts x = Check.reading(2, eleven + "#10 #10 #10\nNETS\nEND\n");
        x.clear();
        Check.put(x, none + "#00 b c\nNETS\nEND\n");
        Check.due("#00 of the text before", x.read(), -1 - none.length());
        x.clear();
        Check.put(x, "LONG\n#00 987654321\nPARTS\n#00 b #01\n");
        Check.due("#01 of the text before", x.read(), -32);
        Check.readNext(x, "LONG\n#00 987654321\nPARTS\n#00 b c\nNETS\nEND\n");
        Check.due("#00 of this text", Check.partText(x, 0, 0), "987654321");
    }

    private static void shortLongText() {
        Check.sentence("FAULT: for a long text of at most 8 characters that of its TOKEN");
        Check.dueFault(2, "LONG\n#00 ^12345678\n");
        Check.dueFault(2, "LONG\n#00 ^12345678");
        Check.dueFault(2, "LONG\n#00 ^12345678 ");
        Check.dueFault(2, "LONG\n#00 ^1\n");
        Check.dueFault(2, "LONG\n#00 ^\\e\n");
        Check.dueFault(2, "LONG\n#00 ^\\e");
        Check.dueFault(2, "LONG\n#00 ^\\d\\d\\d\\d\\d\\d\\d\\d\n");
        Check.dueFault(2, "LONG\n#00 12345678\\^");
        Check.dueFault(2, "LONG\n#00 123456789^");
        Check.dueFault(2, "LONG\n#00 123456789\n#01 ^12345678\n");
        Check.dueRead(2, "LONG\n#00 123456789\nPARTS\nNETS\nEND\n", 0);
        // Behind LONG a short text may stand as it is, and a long one, too.
        Check.dueRead(2, "LONG\nPARTS\n12345678 123456789 \\e\nNETS\n123456789 1\nEND\n", 1);
    }
}
