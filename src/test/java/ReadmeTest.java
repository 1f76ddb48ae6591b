/** The examples of README.md answer what stands there beside them. */
public final class ReadmeTest {
    public static void main(String[] args) {
        readAndWrite();
        compareSwapTake();
        Check.end("ReadmeTest");
    }

    private static void readAndWrite() {
        NetlistTexts x = Check.with(0, "part R1 10k 0603\nnet GND 1 R1.1 X.9\n");
        Check.due("read()", x.read(), 1);
        Check.due("net(0, 0)", x.net(0, 0), 'G');
        Check.due("pin(0, 1, 1)", x.pin(0, 1, 1), 9);
        Check.due("unknown(0)", x.unknown(0), 1);
        String lists = "(netlist\n(part \"R1\" \"10k\" \"0603\")\n(net \"GND\" 1 (pin \"R1\" 1) (pin \"X\" 9)))\n";
        Check.due("written in form 1", Check.written(x, 1), lists);
        x.clear();
        Check.due("written in form 1, without the text", Check.written(x, 1), lists);
    }

    private static void compareSwapTake() {
        NetlistTexts y = Check.reading(0, "net GND 1 R1.1 U1.4\nnet VCC 1 R1.2\n");
        Check.readNext(y, "net MASS 1 R1.1 U1.4\nnet VCC 1 R1.2\n");
        Check.due("compare(0)", y.compare(0), 1);
        Check.due("renamed(0, 0)", y.renamed(0, 0), 0);
        Check.due("renamed(0, 1)", y.renamed(0, 1), 0);
        Check.due("swap(0, 1, 2)", y.swap(0, 1, 2), 1);
        Check.due("note(0, 1)", y.note(0, 1), 1);
        Check.due("take(0)", y.take(0), 1);
    }
}
