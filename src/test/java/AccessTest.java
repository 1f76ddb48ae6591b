/** Promises 4 (net), 5 (pin), 6 (part), 13 (unknown) and 14 (cls). */
public final class AccessTest {
    private static final int MIN = Integer.MIN_VALUE;
    private static final int MAX = Integer.MAX_VALUE;

    public static void main(String[] args) {
        NetlistTexts x = Check.reading(0, "part R1 10k \\e\npart " + Check.repeat("u", 24) + " v f\n"
                + "net GND 7 Y.5 R1.12 X.3 Y.999\nnet B 0\n");
        nets(x);
        pins(x);
        parts(x);
        unknowns(x);
        classes(x);
        Check.end("AccessTest");
    }

    private static void nets(NetlistTexts x) {
        Check.due("net(0, NONE)", x.net(0, -1), 3);
        Check.due("net(0, 0)", x.net(0, 0), 'G');
        Check.due("net(0, 2)", x.net(0, 2), 'D');
        Check.due("net(1, 0)", x.net(1, 0), 'B');
        int[][] none = {{0, 3}, {0, -2}, {1, 1}, {2, 0}, {2, -1}, {-1, 0}, {-1, -1}, {MIN, 0}, {MAX, -1}, {0, MIN},
            {0, MAX}, {0, 24}};
        for (int[] a : none) {
            Check.dueOutOfBounds("net(" + a[0] + ", " + a[1] + ")", () -> x.net(a[0], a[1]));
        }
    }

    private static void pins(NetlistTexts x) {
        Check.due("pin(0, NONE, 77)", x.pin(0, -1, 77), 4);
        Check.due("pin(1, NONE, MIN)", x.pin(1, -1, MIN), 0);
        int[] part = {2, 0, 3, 2};
        int[] number = {5, 12, 3, 999};
        for (int k = 0; k < 4; k++) {
            Check.due("pin(0, " + k + ", 0)", x.pin(0, k, 0), part[k]);
            Check.due("pin(0, " + k + ", 1)", x.pin(0, k, 1), number[k]);
        }
        int[][] none = {{0, 4, 0}, {0, 0, 2}, {0, 0, -1}, {0, -2, 0}, {1, 0, 0}, {2, -1, 0}, {-1, -1, 0}, {MAX, 0, 0},
            {MIN, -1, 0}, {0, MAX, 1}, {0, MIN, 1}, {0, 0, MAX}, {0, 0, MIN}};
        for (int[] a : none) {
            Check.dueOutOfBounds("pin(" + a[0] + ", " + a[1] + ", " + a[2] + ")", () -> x.pin(a[0], a[1], a[2]));
        }
    }

    private static void parts(NetlistTexts x) {
        Check.due("part(0, 63)", x.part(0, 63), 2);
        Check.due("part(0, 1)", x.part(0, 1), '1');
        Check.due("part(0, 127)", x.part(0, 127), 3);
        Check.due("part(0, 66)", x.part(0, 66), 'k');
        Check.due("part(0, 191)", x.part(0, 191), 0);
        Check.due("part(1, 63)", x.part(1, 63), 24);
        Check.due("part(1, 23)", x.part(1, 23), 'u');
        Check.due("part(1, 128)", x.part(1, 128), 'f');
        Check.due("part(2, 0)", x.part(2, 0), 'Y');
        Check.due("part(2, 127)", x.part(2, 127), 0);
        Check.due("part(3, 0)", x.part(3, 0), 'X');
        int[][] none = {{0, 2}, {0, 62}, {0, 67}, {0, 128}, {0, 192}, {0, 255}, {0, -1}, {0, MIN}, {0, MAX}, {1, 24},
            {2, 64}, {4, 63}, {-1, 63}, {MIN, 63}, {MAX, 63}};
        for (int[] a : none) {
            Check.dueOutOfBounds("part(" + a[0] + ", " + a[1] + ")", () -> x.part(a[0], a[1]));
        }
    }

    private static void unknowns(NetlistTexts x) {
        Check.due("unknown(0)", x.unknown(0), 2);
        Check.due("unknown(1)", x.unknown(1), 3);
        for (int k : new int[] {2, 3, -1, MIN, MAX}) {
            Check.due("unknown(" + k + ")", x.unknown(k), NetlistTexts.NONE);
        }
        NetlistTexts told = Check.reading(0, "part a b c\nnet n 1 a.1\n");
        Check.due("unknown(0) where all are told", told.unknown(0), NetlistTexts.NONE);
    }

    private static void classes(NetlistTexts x) {
        Check.due("cls(0)", x.cls(0), 7);
        Check.due("cls(1)", x.cls(1), 0);
        for (int k : new int[] {2, -1, MIN, MAX}) {
            Check.dueOutOfBounds("cls(" + k + ")", () -> x.cls(k));
        }
    }
}
