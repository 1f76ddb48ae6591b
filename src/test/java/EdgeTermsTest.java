/** The limits of LISTS that "Terms" names, sentence by sentence, each in the three forms. A ^ marks a fault's place. */
public final class EdgeTermsTest {
    private static final String MOST = "abcdefghijklmnopqrstuvwx";

    public static void main(String[] args) {
        for (int form = 0; form <= 2; form++) {
            fortyParts(form);
            fortyPartsWithUnknown(form);
            numberedFromZero(form);
            fortyNets(form);
            classes(form);
            hundredSixtyPins(form);
            numbers(form);
            twentyFourCharacters(form);
            twentyFourEscaped(form);
            characters(form);
            oneAtLeast(form);
            noSameParts(form);
            noSameNets(form);
            noPinTwice(form);
            unknownParts(form);
            textsUsedAgain(form);
        }
        Check.end("EdgeTermsTest");
    }

    private static FormText text(int form) {
        return new FormText(form);
    }

    private static void fortyParts(int form) {
        Check.sentence("Terms: PARTS (at most 40)");
        text(form).parts(39).dueRead(0);
        text(form).parts(40).dueRead(0);
        text(form).parts(40).part("^x", "", "").dueFault();
        text(form).parts(40).part("^x$", "", "").dueFault();
        text(form).parts(40).part("^p0", "", "").dueFault();
        text(form).parts(40).part("^", "", "").dueFault();
        NetlistTexts x = text(form).parts(40).net("n", "1").pin("p39", "1").pin("p0", "1").reading();
        Check.due("the last part's name", Check.partText(x, 39, 0), "p39");
        Check.dueOutOfBounds("part(40, 63)", () -> x.part(40, 63));
    }

    private static void fortyPartsWithUnknown(int form) {
        Check.sentence("Terms: PARTS (at most 40), unknown ones among them");
        text(form).parts(39).net("n", "1").pin("u", "1").pin("u", "2").pin("p38", "1").dueRead(1);
        text(form).parts(39).net("n", "1").pin("u", "1").pin("^v", "1").dueFault();
        text(form).parts(40).net("n", "1").pin("p39", "1").dueRead(1);
        text(form).parts(40).net("n", "1").pin("^u", "1").dueFault();
        text(form).parts(40).net("n", "1").pin("^u$", "1").dueFault();
        text(form).parts(40).net("n", "1").net("m", "1").pin("p0", "1").pin("^u", "1").dueFault();
        text(form).parts(40).net("n", "1").net("u", "1").dueRead(2);
        FormText unknown = text(form).net("n", "1");
        FormText oneMore = text(form).net("n", "1");
        for (int i = 0; i < 40; i++) {
            unknown.pin("u" + i, "7");
            oneMore.pin("u" + i, "7");
        }
        NetlistTexts x = unknown.reading();
        Check.due("unknown(39)", x.unknown(39), 39);
        Check.due("unknown(40)", x.unknown(40), NetlistTexts.NONE);
        oneMore.pin("^u40", "7").dueFault();
    }

    private static void numberedFromZero(int form) {
        Check.sentence("Terms: numbered from 0");
        NetlistTexts x = text(form).part("a", "b", "c").part("d", "e", "f").net("n", "1").pin("d", "1").pin("a", "2")
                .net("m", "1").reading();
        Check.due("part 0", Check.partText(x, 0, 0), "a");
        Check.due("part 1", Check.partText(x, 1, 0), "d");
        Check.due("part of pin 0", x.pin(0, 0, 0), 1);
        Check.due("part of pin 1", x.pin(0, 1, 0), 0);
        Check.due("net 0", Check.netName(x, 0), "n");
        Check.due("net 1", Check.netName(x, 1), "m");
    }

    private static void fortyNets(int form) {
        Check.sentence("Terms: NETS (at most 40)");
        text(form).dueRead(0);
        text(form).nets(1).dueRead(1);
        text(form).nets(39).dueRead(39);
        text(form).nets(40).dueRead(40);
        text(form).nets(40).net("^x", "1").dueFault();
        text(form).nets(40).net("^x$", "1").dueFault();
        text(form).parts(40).nets(40).dueRead(40);
        text(form).parts(40).nets(40).net("^x", "1").dueFault();
        text(form).nets(40).pin("u", "1").net("^x", "1").dueFault();
        NetlistTexts x = text(form).nets(40).reading();
        Check.due("the last net's name", Check.netName(x, 39), "n39");
        Check.dueOutOfBounds("net(40, NONE)", () -> x.net(40, -1));
    }

    private static void classes(int form) {
        Check.sentence("Terms: a CLASS (0 .. 9)");
        for (int cls = 0; cls <= 9; cls++) {
            Check.due("CLASS " + cls, text(form).net("n", "" + cls).reading().cls(0), cls);
        }
        for (String wrong : new String[] {"^/", "^:", "^-1", "^+1", "^a", "^", "1^0", "0^0", "9^9", "1^.", "^$"}) {
            text(form).net("n", wrong).dueFault();
        }
    }

    private static void hundredSixtyPins(int form) {
        Check.sentence("Terms: PINS (160 of all nets)");
        text(form).net("n", "1").pins("a", 1, 159).dueRead(1);
        text(form).net("n", "1").pins("a", 1, 160).dueRead(1);
        text(form).net("n", "1").pins("a", 1, 160).net("m", "1").dueRead(2);
        text(form).net("n", "1").pins("a", 1, 160).pin("^a", "161").dueFault();
        text(form).net("n", "1").pins("a", 1, 160).pin("^a", "161$").dueFault();
        text(form).net("n", "1").pins("a", 1, 160).pin("^b", "1").dueFault();
        text(form).net("n", "1").pins("a", 1, 160).pin("^a", "1").dueFault();
        text(form).net("n", "1").pins("a", 1, 160).net("m", "1").pin("^b", "1").dueFault();
        FormText spread = text(form);
        FormText oneMore = text(form);
        for (int i = 0; i < 40; i++) {
            spread.net("n" + i, "1").pins("a", 1 + 4 * i, 4);
            oneMore.net("n" + i, "1").pins("a", 1 + 4 * i, 4);
        }
        NetlistTexts x = spread.reading();
        Check.due("pins of the first net", Check.pins(x, 0), "a/1 a/2 a/3 a/4");
        Check.due("pins of the last net", Check.pins(x, 39), "a/157 a/158 a/159 a/160");
        oneMore.pin("^a", "999").dueFault();
    }

    private static void numbers(int form) {
        Check.sentence("Terms: a number (1 .. 999); one to three digits, the first one not 0");
        for (int number : new int[] {1, 9, 10, 99, 100, 998, 999}) {
            Check.due("NUMBER " + number, text(form).net("n", "1").pin("a", "" + number).reading().pin(0, 0, 1), number);
        }
        for (String wrong : new String[] {"^0", "^00", "^01", "^001", "100^0", "999^9", "999^0", "123^4$", "^-1", "^+1",
            "^/", "^:", "^a", "1^a", "12^/", "12^:", "^$", "^0$"}) {
            text(form).net("n", "1").pin("a", wrong).dueFault();
        }
    }

    private static void twentyFourCharacters(int form) {
        Check.sentence("Terms: These texts have at most 24 characters");
        NetlistTexts x = text(form).part(MOST, MOST, MOST).net(MOST, "1").pin(MOST, "1").pin(MOST.toUpperCase(), "1").reading();
        for (int which = 0; which < 3; which++) {
            Check.due("a part's text " + which, Check.partText(x, 0, which), MOST);
        }
        Check.due("a net's name", Check.netName(x, 0), MOST);
        Check.due("an unknown part's name", Check.partText(x, 1, 0), MOST.toUpperCase());
        for (String more : new String[] {MOST + "^y", MOST + "^yz", MOST + "^y$"}) {
            text(form).part(more, "", "").dueFault();
            text(form).part("a", more, "").dueFault();
            text(form).part("a", "", more).dueFault();
            text(form).net(more, "1").dueFault();
            text(form).net("n", "1").pin(more, "1").dueFault();
        }
        text(form).part(MOST, "", "").part(MOST + "^y", "", "").dueFault();
    }

    private static void twentyFourEscaped(int form) {
        Check.sentence("Terms: at most 24 characters (escaped ones count once)");
        String escaped = Check.repeat("\\", 24);
        NetlistTexts x = text(form).part(escaped, escaped, escaped).net(escaped, "1").pin(escaped, "1").reading();
        Check.due("a part's name", Check.partText(x, 0, 0), escaped);
        Check.due("a part's footprint", Check.partText(x, 0, 2), escaped);
        Check.due("a net's name", Check.netName(x, 0), escaped);
        for (String more : new String[] {escaped + "^\\", MOST + "^\\", escaped + "^a"}) {
            text(form).part(more, "", "").dueFault();
            text(form).part("a", more, "").dueFault();
            text(form).part("a", "", more).dueFault();
            text(form).net(more, "1").dueFault();
            text(form).net("n", "1").pin(more, "1").dueFault();
        }
    }

    private static void characters(int form) {
        Check.sentence("Terms: characters, 32 .. 126");
        for (char c = 32; c <= 126; c++) {
            // The marks of FormText itself cannot be handed in through it.
            if (c == '^' || c == '$') {
                continue;
            }
            String first = c + "x";
            String last = "x" + c;
            NetlistTexts x = text(form).part(first, "" + c, last).net("" + c, "1").pin("y" + c, "1").reading();
            Check.due("name with " + (int) c, Check.partText(x, 0, 0), first);
            Check.due("value with " + (int) c, Check.partText(x, 0, 1), "" + c);
            Check.due("footprint with " + (int) c, Check.partText(x, 0, 2), last);
            Check.due("net with " + (int) c, Check.netName(x, 0), "" + c);
            Check.due("part of a pin with " + (int) c, Check.partText(x, 1, 0), "y" + c);
        }
        text(form).part("a", "x^\n", "").dueFault();
        text(form).net("x^\ny", "1").dueFault();
    }

    private static void oneAtLeast(int form) {
        Check.sentence("Terms: names one at least");
        text(form).part("a", "", "").net("n", "1").pin("u", "1").dueRead(1);
        text(form).part("^", "v", "f").dueFault();
        text(form).part("^$", "v", "f").dueFault();
        text(form).part("a", "", "").part("^", "v", "f").dueFault();
        text(form).net("^", "1").dueFault();
        text(form).net("^$", "1").dueFault();
        text(form).net("n", "1").pin("^", "1").dueFault();
        text(form).net("n", "1").pin("^$", "1").dueFault();
    }

    private static void noSameParts(int form) {
        Check.sentence("Terms: no two parts have the same name");
        text(form).part("a", "a", "a").part("aa", "a", "a").part("A", "a", "a").part("b", "a", "a").dueRead(0);
        text(form).part("a", "", "").part("^a", "", "").dueFault();
        text(form).part("a", "", "").part("b", "", "").part("^a", "", "").dueFault();
        text(form).part("a", "", "").part("b", "", "").part("^b$", "", "").dueFault();
        text(form).part("a.", "", "").part("^a.", "", "").dueFault();
        text(form).part(MOST, "", "").part("^" + MOST, "", "").dueFault();
        text(form).part(MOST, "", "").part(MOST.substring(1), "", "").part(MOST.substring(0, 23), "", "").dueRead(0);
        FormText last = text(form);
        last.parts(39).part("^p38", "", "").dueFault();
    }

    private static void noSameNets(int form) {
        Check.sentence("Terms: no two nets have the same name");
        text(form).part("a", "", "").net("a", "1").net("aa", "1").net("A", "1").dueRead(3);
        text(form).net("a", "1").net("^a", "2").dueFault();
        text(form).net("a", "1").pin("p", "1").net("b", "1").net("^a$", "2").dueFault();
        text(form).net("a", "1").net("b", "1").net("^b", "1").dueFault();
        text(form).net(MOST, "1").net("^" + MOST, "1").dueFault();
        text(form).net(MOST, "1").net(MOST.substring(0, 23), "1").dueRead(2);
        text(form).nets(39).net("^n38", "1").dueFault();
    }

    private static void noPinTwice(int form) {
        Check.sentence("Terms: no pin stands twice in a list");
        text(form).net("n", "1").pin("a", "1").pin("b", "1").pin("a", "2").pin("a", "11").dueRead(1);
        text(form).net("n", "1").pin("a", "1").pin("^a", "1").dueFault();
        text(form).net("n", "1").pin("a", "1").pin("^a", "1$").dueFault();
        text(form).net("n", "1").pin("a", "1").net("m", "1").pin("b", "1").pin("^a", "1").dueFault();
        text(form).part("a", "", "").net("n", "1").pin("a", "999").net("m", "1").pin("^a", "999").dueFault();
        text(form).net("n", "1").pins("a", 1, 159).pin("^a", "159").dueFault();
    }

    private static void unknownParts(int form) {
        Check.sentence("Terms: UNKNOWN: its value and footprint are empty; behind all others, in the order in which they stand");
        NetlistTexts x = text(form).part("a", "va", "fa").part("z", "vz", "fz").net("n", "1").pin("y", "1").pin("z", "1")
                .pin("b", "1").net("m", "1").pin("c", "1").pin("y", "2").pin("a", "1").reading();
        String[] names = {"a", "z", "y", "b", "c"};
        for (int k = 0; k < names.length; k++) {
            Check.due("part " + k, Check.partText(x, k, 0), names[k]);
            Check.due("value of part " + k, Check.partText(x, k, 1), k < 2 ? "v" + names[k] : "");
            Check.due("footprint of part " + k, Check.partText(x, k, 2), k < 2 ? "f" + names[k] : "");
            Check.due("unknown(" + k + ")", x.unknown(k), k < 3 ? 2 + k : NetlistTexts.NONE);
        }
        Check.dueOutOfBounds("part(5, 63)", () -> x.part(5, 63));
        NetlistTexts told = text(form).part("a", "", "").net("n", "1").reading();
        Check.due("a part told, but without a pin", told.unknown(0), NetlistTexts.NONE);
        Check.due("it is there", told.part(0, 63), 1);
    }

    /** Texts that were longer, or there, in the list before do not show in the next one. */
    private static void textsUsedAgain(int form) {
        Check.sentence("Terms: names, values and footprints of one list only");
        NetlistTexts x = text(form).part("abc", MOST, MOST).net("netname", "9").pin("unknown", "1").reading();
        for (int i = 0; i < 6; i++) {
            Check.readNext(x, new FormText(form).net("n", "0").pin("u", "2").text());
            Check.due("the list", Check.written(x, 0), "net n 0 u.2\n");
            Check.due("value of its part", Check.partText(x, 0, 1), "");
            Check.due("footprint of its part", Check.partText(x, 0, 2), "");
            Check.readNext(x, new FormText(form).part("abc", MOST, MOST).net("netname", "9").pin("abc", "1").text());
            Check.due("the next list", Check.written(x, 0), "part abc " + MOST + " " + MOST + "\nnet netname 9 abc.1\n");
        }
    }
}
