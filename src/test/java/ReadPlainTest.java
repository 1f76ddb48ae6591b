/** Promise 3, form 0. A ^ marks the place where a fault is due. */
public final class ReadPlainTest {
    public static void main(String[] args) {
        contents();
        words();
        tokens();
        names();
        pins();
        limits();
        lists();
        listsFilledAnew();
        Check.end("ReadPlainTest");
    }

    private static void contents() {
        NetlistTexts x = Check.reading(0, "part R1 10k 0603\npart U\\d1 \\e so\\s8\n"
                + "net #GND 1 R1.1 U\\d1.4 X.9\nnet A\\\\ 0\nnet ( 9 Y.999 X.10 R1.2\n");
        Check.due("name of part 1", Check.partText(x, 1, 0), "U.1");
        Check.due("value of part 1", Check.partText(x, 1, 1), "");
        Check.due("footprint of part 1", Check.partText(x, 1, 2), "so 8");
        Check.due("name of part 2", Check.partText(x, 2, 0), "X");
        Check.due("value of part 2", Check.partText(x, 2, 1), "");
        Check.due("footprint of part 2", Check.partText(x, 2, 2), "");
        Check.due("name of part 3", Check.partText(x, 3, 0), "Y");
        Check.due("net 0", Check.netName(x, 0), "#GND");
        Check.due("net 1", Check.netName(x, 1), "A\\");
        Check.due("pins of net 0", Check.pins(x, 0), "R1/1 U.1/4 X/9");
        Check.due("pins of net 1", Check.pins(x, 1), "");
        Check.due("pins of net 2", Check.pins(x, 2), "Y/999 X/10 R1/2");
        Check.due("class of net 2", x.cls(2), 9);
    }

    private static void words() {
        Check.dueRead(0, "", 0);
        Check.dueRead(0, "part a b c\n", 0);
        Check.dueFault(0, "^x");
        Check.dueFault(0, "^\n");
        Check.dueFault(0, "^ net A 1\n");
        Check.dueFault(0, "pa^");
        Check.dueFault(0, "pa^x");
        Check.dueFault(0, "part^");
        Check.dueFault(0, "part^\n");
        Check.dueFault(0, "part ^");
        Check.dueFault(0, "part ^ a b c\n");
        Check.dueFault(0, "part a^\n");
        Check.dueFault(0, "part a b^\n");
        Check.dueFault(0, "part a b c^");
        Check.dueFault(0, "part a b c^ \n");
        Check.dueFault(0, "part a b c\n^q");
        Check.dueFault(0, "part a ^. c\n");
        Check.dueFault(0, "part a b^.c d\n");
        Check.dueFault(0, "net^x");
        Check.dueFault(0, "net A^\n");
        Check.dueFault(0, "net A ^\n");
        Check.dueFault(0, "net A ^x");
        Check.dueFault(0, "net A 1^");
        Check.dueFault(0, "net A 1^2\n");
        Check.dueFault(0, "net A 1 ^\n");
        Check.dueFault(0, "net A 1\n^part a b c\n");
        Check.dueFault(0, "net A 1\nn^\n");
    }

    private static void tokens() {
        String most = Check.repeat("x", 24);
        Check.dueRead(0, "net " + most + " 1\n", 1);
        Check.dueFault(0, "net " + most + "^x 1\n");
        Check.dueFault(0, "net " + most + "^\\s 1\n");
        Check.dueFault(0, "part a " + most + "^\\");
        Check.dueFault(0, "part a b " + most + "^y\n");
        Check.dueRead(0, "net " + Check.repeat("\\s", 24) + " 1\n", 1);
        Check.dueFault(0, "net " + Check.repeat("\\d", 24) + "^\\d 1\n");
        Check.dueFault(0, "net a\\^h 1\n");
        Check.dueFault(0, "net \\^h 1\n");
        Check.dueFault(0, "net a\\^e 1\n");
        Check.dueFault(0, "net a\\^");
        Check.dueFault(0, "net \\^");
        Check.dueFault(0, "net a\\^\n");
        Check.dueFault(0, "part a \\e^x c\n");
        Check.dueRead(0, "net !~\" 1\n", 1);
    }

    private static void names() {
        Check.dueFault(0, "part ^\\e b c\n");
        Check.dueFault(0, "part ^\\e");
        Check.dueFault(0, "net ^\\e 1\n");
        Check.dueFault(0, "net A 1 ^\\e.1\n");
        Check.dueFault(0, "part a b c\npart ^a");
        Check.dueFault(0, "part a b c\npart ^a ");
        Check.dueFault(0, "part a b c\npart ^a.");
        Check.dueFault(0, "part a b c\npart ^a\n");
        Check.dueFault(0, "part a\\d b c\npart ^a\\d b c\n");
        Check.dueFault(0, "part a b c\npart a\\^");
        Check.dueFault(0, "part a b c\npart a\\^q");
        Check.dueRead(0, "part a b c\npart b b c\npart A b c\npart aa b c\n", 0);
        Check.dueFault(0, "net a 1\nnet ^a 2\n");
        Check.dueFault(0, "net a 1\nnet ^a");
        Check.dueRead(0, "part a b c\nnet a 1\nnet b 1 a.1\n", 2);
    }

    private static void pins() {
        Check.dueFault(0, "net N 1 R1^");
        Check.dueFault(0, "net N 1 R1^ ");
        Check.dueFault(0, "net N 1 R1.^");
        Check.dueFault(0, "net N 1 R1.^0");
        Check.dueFault(0, "net N 1 R1.^x");
        Check.dueFault(0, "net N 1 R1.1^x");
        Check.dueFault(0, "net N 1 R1.1^");
        Check.dueFault(0, "net N 1 R1.123^4");
        Check.dueRead(0, "net N 1 R1.100 R1.10 R1.1\n", 1);
        Check.dueFault(0, "net N 1 Q.1 ^Q.1");
        Check.dueFault(0, "net N 1 Q.1 ^Q.1x");
        Check.dueFault(0, "net N 1 Q.1 ^Q.1 ");
        Check.dueFault(0, "net N 1 Q.1 ^Q.1\n");
        Check.dueFault(0, "net N 1 Q.123 Q.123^4");
        Check.dueFault(0, "net N 1 Q.123 ^Q.123");
        Check.dueFault(0, "net N 1 Q.1\nnet M 1 Q.2 R.1 ^Q.1\n");
        Check.dueRead(0, "net N 1 Q.1 Q.12 Q.13\n", 1);
    }

    private static void limits() {
        String parts = lines("part ", 40, " b c\n");
        String nets = lines("net ", 40, " 1\n");
        Check.dueRead(0, parts + nets, 40);
        Check.dueFault(0, parts + "part ^x");
        Check.dueFault(0, parts + "part ^x b c\n");
        Check.dueFault(0, parts + "part x\\^q");
        Check.dueFault(0, nets + "net ^x 1\n");
        Check.dueFault(0, nets + "net ^x");
        Check.dueRead(0, parts + "net x 1 n0.1 n39.1\n", 1);
        Check.dueFault(0, parts + "net x 1 n0.1 ^y.1\n");
        Check.dueFault(0, parts + "net x 1 n0.1 ^y");
        Check.dueFault(0, parts + "net x 1 n0.1 ^y.0");

        StringBuilder pins = new StringBuilder("net x 1");
        for (int i = 1; i <= 160; i++) {
            pins.append(" a.").append(i);
        }
        Check.dueRead(0, pins + "\n", 1);
        Check.dueRead(0, pins + "\nnet y 1\n", 2);
        Check.dueFault(0, pins + " ^a.161");
        Check.dueFault(0, pins + "\nnet y 1 ^b.1\n");
        Check.dueFault(0, pins + " a.^0");
    }

    private static String lines(String ahead, int count, String behind) {
        StringBuilder all = new StringBuilder();
        for (int i = 0; i < count; i++) {
            all.append(ahead).append('n').append(i).append(behind);
        }
        return all.toString();
    }

    private static void lists() {
        NetlistTexts x = Check.reading(0, "net A 1 p.1\n");
        Check.put(x, "?");
        Check.due("read() with a fault", x.read(), -13);
        Check.due("the list stays at hand", Check.netName(x, 0), "A");
        Check.dueOutOfBounds("compare(1) after the fault", () -> x.compare(1));
        Check.readNext(x, "net B 1 p.1\n");
        Check.readNext(x, "net C 1 p.1\n");
        Check.readNext(x, "net D 1 p.1\n");
        Check.due("compare(0) of four lists", x.compare(0), 1);
        Check.due("compare(3) of four lists", x.compare(3), 0);
        Check.dueOutOfBounds("compare(4) of four lists", () -> x.compare(4));
        Check.readNext(x, "net A 1 p.1\n");
        Check.due("name of the list at hand", Check.netName(x, 0), "A");
        Check.due("compare(0): the first list has gone", x.compare(0), 1);
        Check.due("compare(3): the list itself", x.compare(3), 0);
        Check.dueOutOfBounds("compare(4) of four lists still", () -> x.compare(4));
        Check.readNext(x, "net C 1 p.1\n");
        Check.due("compare(0) with C", x.compare(0), 0);
        Check.due("compare(1) with D", x.compare(1), 1);
        Check.due("read() again of the same text", x.read(), 1);
        Check.due("parts of a list filled anew", x.unknown(1), NetlistTexts.NONE);
    }

    /** Lists are filled anew: nothing of what a fault, or the list that went, left there may show. */
    private static void listsFilledAnew() {
        NetlistTexts x = Check.with(0, "part longer_name value foot\nnet long_net 7 longer_name.1\n?");
        x.read();
        Check.readNext(x, "net n 1 u.1\n");
        Check.due("the list after a fault", Check.written(x, 0), "net n 1 u.1\n");
        Check.due("name of its part", Check.partText(x, 0, 0), "u");
        Check.due("value of its part", Check.partText(x, 0, 1), "");
        Check.due("footprint of its part", Check.partText(x, 0, 2), "");
        NetlistTexts y = new NetlistTexts(0);
        for (int i = 0; i < 6; i++) {
            Check.readNext(y, "part p v f\nnet Z~~ 1 p.1 p.2\nnet Z~! 1 p.3\nnet Y 1 p.4\n");
        }
        for (int i = 0; i < 6; i++) {
            Check.readNext(y, "net Z 1 u.1\nnet Z! 1 u.2\n");
            Check.due("value of an unknown part", y.part(0, 127), 0);
            Check.due("pins of net 0", Check.pins(y, 0), "u/1");
            Check.dueOutOfBounds("a third net", () -> y.cls(2));
        }
        Check.readNext(y, "net A 1 u.1 u.2\n");
        Check.due("compare with a list filled anew", y.compare(0), 1);
        Check.due("Z is less than Z!", y.renamed(0, 1), 0);
    }
}
