/** Promise 3, form 2. A ^ marks the place where a fault is due. */
public final class ReadLongTest {
    private static final String NO_LONGS = "LONG\nPARTS\n";
    private static final String ONE_LONG = "LONG\n#00 resistor10\nPARTS\n";

    public static void main(String[] args) {
        contents();
        sections();
        longs();
        references();
        tokens();
        names();
        pins();
        limits();
        Check.end("ReadLongTest");
    }

    private static void contents() {
        NetlistTexts x = Check.reading(2, "LONG\n#00 \\hesistor10\n#01 nine\\schar\nPARTS\n#00 \\e \\hx\nNETS #01 a#\\d\n"
                + "NETS\nNETS 4\n #00 3\n END 7\nEND 1\n NETS 12\n#01 0\nEND\n");
        Check.due("part 0", Check.partText(x, 0, 0), "#esistor10");
        Check.due("value of part 0", Check.partText(x, 0, 1), "");
        Check.due("footprint of part 0", Check.partText(x, 0, 2), "#x");
        Check.due("part 1", Check.partText(x, 1, 0), "NETS");
        Check.due("value of part 1", Check.partText(x, 1, 1), "nine char");
        Check.due("footprint of part 1", Check.partText(x, 1, 2), "a#.");
        Check.due("part 2", Check.partText(x, 2, 0), "END");
        Check.due("unknown(0)", x.unknown(0), 2);
        Check.due("net 0", Check.netName(x, 0), "NETS");
        Check.due("net 1", Check.netName(x, 1), "END");
        Check.due("net 2", Check.netName(x, 2), "nine char");
        Check.due("pins of net 0", Check.pins(x, 0), "#esistor10/3 END/7");
        Check.due("pins of net 1", Check.pins(x, 1), "NETS/12");
        Check.due("pins of net 2", Check.pins(x, 2), "");
        Check.due("class of net 0", x.cls(0), 4);
    }

    private static void sections() {
        Check.dueRead(2, "LONG\nPARTS\nNETS\nEND\n", 0);
        Check.dueFault(2, "^");
        Check.dueFault(2, "LON^");
        Check.dueFault(2, "^PARTS\n");
        Check.dueFault(2, "LONG^ \n");
        Check.dueFault(2, "LONG\n^NETS\n");
        Check.dueFault(2, "LONG\nPARTS^");
        Check.dueFault(2, "LONG\nPARTS\n^");
        Check.dueFault(2, "LONG\nPARTS\n^\n");
        Check.dueFault(2, "LONG\nPARTS\n^ a b c\n");
        Check.dueFault(2, "LONG\nPARTS\nNETS^");
        Check.dueFault(2, "LONG\nPARTS\nNET^\n");
        Check.dueFault(2, "LONG\nPARTS\nEND^\n");
        Check.dueFault(2, "LONG\nPARTS\na b^\n");
        Check.dueFault(2, "LONG\nPARTS\na b c^ \n");
        Check.dueFault(2, "LONG\nPARTS\na ^\n");
        Check.dueFault(2, "LONG\nPARTS\nNETS\n^");
        Check.dueFault(2, "LONG\nPARTS\nNETS\n^ a 1\n");
        Check.dueFault(2, "LONG\nPARTS\nNETS\na^\n");
        Check.dueFault(2, "LONG\nPARTS\nNETS\na 1^ \n");
        Check.dueFault(2, "LONG\nPARTS\nNETS\na 1^2");
        Check.dueFault(2, "LONG\nPARTS\nNETS\na 1\n^");
        Check.dueFault(2, "LONG\nPARTS\nNETS\nEND^");
        Check.dueFault(2, "LONG\nPARTS\nNETS\nEND\n^ ");
        Check.dueFault(2, "LONG\nPARTS\nNETS\nEND\n^\n");
    }

    private static void longs() {
        String rest = "PARTS\nNETS\nEND\n";
        Check.dueRead(2, "LONG\n#00 123456789\n#01 123456789\n" + rest, 0);
        Check.dueRead(2, "LONG\n#00 " + Check.repeat("\\d", 9) + "\n" + rest, 0);
        Check.dueFault(2, "LONG\n#00 ^12345678\n");
        Check.dueFault(2, "LONG\n#00 ^12345678");
        Check.dueFault(2, "LONG\n#00 ^1 ");
        Check.dueFault(2, "LONG\n#00 ^\\s\\s\\s\\s\\s\\s\\s\\s\n");
        Check.dueFault(2, "LONG\n#00 ^\\e\n");
        Check.dueFault(2, "LONG\n#00 123456789^");
        Check.dueFault(2, "LONG\n#00 123456789^ ");
        Check.dueFault(2, "LONG\n#00 " + Check.repeat("x", 24) + "^x\n");
        Check.dueFault(2, "LONG\n#^");
        Check.dueFault(2, "LONG\n#0^1");
        Check.dueFault(2, "LONG\n#^1");
        Check.dueFault(2, "LONG\n#00^x");
        Check.dueFault(2, "LONG\n#00 ^ ");
        Check.dueFault(2, "LONG\n#00 ^#23456789\n");
        Check.dueFault(2, "LONG\n#00 123456789\n#0^0 123456789\n");
        Check.dueFault(2, "LONG\n#00 123456789\n#01 ^#00\n");
    }

    private static void references() {
        Check.dueRead(2, ONE_LONG + "#00 #00 #00\nNETS\n#00 1\n #00 1\nEND\n", 1);
        Check.dueFault(2, NO_LONGS + "^#00");
        Check.dueFault(2, NO_LONGS + "#^");
        Check.dueFault(2, NO_LONGS + "#0^");
        Check.dueFault(2, NO_LONGS + "#^x");
        Check.dueFault(2, NO_LONGS + "#0^ ");
        Check.dueFault(2, ONE_LONG + "^#01 b c\n");
        Check.dueFault(2, ONE_LONG + "^#10x");
        Check.dueFault(2, ONE_LONG + "#00^x");
        Check.dueFault(2, ONE_LONG + "a ^#99 c\n");
        Check.dueFault(2, ONE_LONG + "a #00^0 c\n");
        Check.dueFault(2, ONE_LONG + "a b c\nNETS\n^#01");
        Check.dueFault(2, ONE_LONG + "a b c\nNETS\nn 1\n ^#01");
        Check.dueFault(2, ONE_LONG + "#00 b c\n^#00");
        Check.dueFault(2, ONE_LONG + "#00 b c\n^resistor10");
    }

    private static void tokens() {
        Check.dueRead(2, NO_LONGS + "\\h \\h\\h \\e\nNETS\nEND\n".replace("\\h\\h", "\\h#"), 0);
        Check.dueFault(2, NO_LONGS + "\\h\\^h");
        Check.dueFault(2, NO_LONGS + "a\\^h");
        Check.dueFault(2, NO_LONGS + "a\\^e");
        Check.dueFault(2, NO_LONGS + "a\\^");
        Check.dueFault(2, NO_LONGS + "a^.");
        Check.dueFault(2, NO_LONGS + "^.");
        Check.dueFault(2, NO_LONGS + Check.repeat("\\h", 1) + Check.repeat("#", 23) + "^#");
        Check.dueRead(2, NO_LONGS + Check.repeat("z", 24) + " b c\nNETS\nEND\n", 0);
        Check.dueFault(2, NO_LONGS + "a \\e^e");
    }

    private static void names() {
        Check.dueFault(2, NO_LONGS + "^\\e b c\n");
        Check.dueFault(2, NO_LONGS + "^\\e");
        Check.dueFault(2, NO_LONGS + "NETS\n^\\e 1\n");
        Check.dueFault(2, NO_LONGS + "NETS\na 1\n ^\\e 1\n");
        Check.dueFault(2, NO_LONGS + "a b c\n^a");
        Check.dueFault(2, NO_LONGS + "a b c\n^a b c\n");
        Check.dueFault(2, NO_LONGS + "NETS\na 1\n^a 1\n");
        Check.dueFault(2, NO_LONGS + "NETS\na 1\n^a\n");
        // Without its line feed the last word is not the LINE END yet, but a name that is there already.
        Check.dueFault(2, NO_LONGS + "NETS\nEND 1\n^END");
        Check.dueRead(2, NO_LONGS + "NETS\nEND 1\nEND\n", 1);
        Check.dueFault(2, NO_LONGS + "NETS b c\n^NETS ");
        Check.dueRead(2, NO_LONGS + "NETS b c\nNETS\nEND\n", 0);
    }

    private static void pins() {
        String start = NO_LONGS + "NETS\nn 1\n q 1\n q 123\n";
        Check.dueRead(2, start + "END\n", 1);
        Check.dueFault(2, start + " ^");
        Check.dueFault(2, start + " ^ q 1\n");
        Check.dueFault(2, start + " q^");
        Check.dueFault(2, start + " q^.");
        Check.dueFault(2, start + " q ^");
        Check.dueFault(2, start + " q ^0");
        Check.dueFault(2, start + " ^q 1");
        Check.dueFault(2, start + " ^q 1\n");
        Check.dueFault(2, start + " ^q 1x");
        Check.dueFault(2, start + " q 12^x");
        Check.dueFault(2, start + " q 12^");
        Check.dueFault(2, start + " q 123^4");
        Check.dueFault(2, start + "m 1\n ^q 123\n");
    }

    private static void limits() {
        StringBuilder parts = new StringBuilder();
        StringBuilder nets = new StringBuilder();
        for (int i = 0; i < 40; i++) {
            parts.append('n').append(i).append(" b c\n");
            nets.append('n').append(i).append(" 1\n");
        }
        Check.dueRead(2, NO_LONGS + parts + "NETS\n" + nets + "END\n", 40);
        Check.dueFault(2, NO_LONGS + parts + "^x");
        Check.dueFault(2, NO_LONGS + parts + "^NEXT b c\n");
        Check.dueFault(2, NO_LONGS + "NETS\n" + nets + "^EN 1\n");
        Check.dueFault(2, NO_LONGS + "NETS\n" + nets + "^x 1\n");
        Check.dueFault(2, NO_LONGS + parts + "NETS\na 1\n n7 1\n ^y 1\n");
        StringBuilder pins = new StringBuilder();
        for (int i = 1; i <= 160; i++) {
            pins.append(" a ").append(i).append('\n');
        }
        Check.dueRead(2, NO_LONGS + "NETS\na 1\n" + pins + "END\n", 1);
        Check.dueFault(2, NO_LONGS + "NETS\na 1\n" + pins + " ^a 161\n");

        StringBuilder longs = new StringBuilder("LONG\n");
        for (int i = 0; i < 100; i++) {
            longs.append('#').append(i / 10).append(i % 10).append(" longtext").append(i).append('\n');
        }
        NetlistTexts x = Check.reading(2, longs + "PARTS\n#00 #99 #42\nNETS\nEND\n");
        Check.due("text 00", Check.partText(x, 0, 0), "longtext0");
        Check.due("text 99", Check.partText(x, 0, 1), "longtext99");
        Check.due("text 42", Check.partText(x, 0, 2), "longtext42");
        Check.dueFault(2, longs + "^#00 longtext\n");
    }
}
