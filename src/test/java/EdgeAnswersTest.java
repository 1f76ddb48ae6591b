/** The edges that promises 4 (net), 5 (pin), 6 (part), 13 (unknown) and 14 (cls) name, sentence by sentence. */
public final class EdgeAnswersTest {
    private static final int MIN = Integer.MIN_VALUE;
    private static final int MAX = Integer.MAX_VALUE;
    private static final int NONE = NetlistTexts.NONE;
    private static final String MOST = "abcdefghijklmnopqrstuvwx";

    public static void main(String[] args) {
        for (int form = 0; form <= 2; form++) {
            NetlistTexts x = small(form);
            String seen = Check.seen(x);
            netCharacters(x);
            netLength(x);
            noSuchNet(x);
            pinAnswers(x);
            pinCount(x);
            noSuchPin(x);
            partCharacters(x);
            partLength(x);
            noSuchPart(x);
            unknownParts(x);
            notSoMany(x);
            classes(x);
            noSuchClass(x);
            Check.sentence("4, 5, 6, 13, 14: nothing changes");
            Check.due("the list", Check.seen(x), seen);
            full(form);
        }
        Check.end("EdgeAnswersTest");
    }

    /** Parts: 0 and 1 told, 2 and 3 unknown. */
    private static NetlistTexts small(int form) {
        return new FormText(form).part("R1", "", MOST).part(MOST, "~ ", "").net("G", "0").pin("U", "1").pin("R1", "999")
                .net(MOST, "9").net("#!", "5").pin("X", "20").pin("U", "3").pin("R1", "4").reading();
    }

    private static void netCharacters(NetlistTexts x) {
        Check.sentence("4: The i-th character (from 0) of the name of a net at hand");
        Check.due("net(0, 0)", x.net(0, 0), 'G');
        Check.due("net(2, 0)", x.net(2, 0), '#');
        Check.due("net(2, 1)", x.net(2, 1), '!');
        for (int i = 0; i < 24; i++) {
            Check.due("net(1, " + i + ")", x.net(1, i), MOST.charAt(i));
        }
    }

    private static void netLength(NetlistTexts x) {
        Check.sentence("4: i NONE: how many");
        Check.due("net(0, NONE)", x.net(0, NONE), 1);
        Check.due("net(1, NONE)", x.net(1, NONE), 24);
        Check.due("net(2, NONE)", x.net(2, NONE), 2);
    }

    private static void noSuchNet(NetlistTexts x) {
        Check.sentence("4: IndexOutOfBoundsException, when there is none such");
        int[][] none = {{0, 1}, {1, 24}, {2, 2}, {0, 23}, {0, 24}, {0, -2}, {1, -2}, {0, MIN}, {0, MAX}, {3, 0}, {3, NONE},
            {-1, 0}, {-1, NONE}, {39, 0}, {40, NONE}, {-40, 0}, {MIN, NONE}, {MAX, NONE}, {MIN, 0}, {MAX, 0}, {MAX, MAX},
            {MIN, MIN}};
        for (int[] a : none) {
            Check.dueOutOfBounds("net(" + a[0] + ", " + a[1] + ")", () -> x.net(a[0], a[1]));
        }
    }

    private static void pinAnswers(NetlistTexts x) {
        Check.sentence("5: Of the k-th pin of a net at hand: its part (what 0), its number (1)");
        int[][] due = {{0, 0, 2, 1}, {0, 1, 0, 999}, {2, 0, 3, 20}, {2, 1, 2, 3}, {2, 2, 0, 4}};
        for (int[] a : due) {
            Check.due("pin(" + a[0] + ", " + a[1] + ", 0)", x.pin(a[0], a[1], 0), a[2]);
            Check.due("pin(" + a[0] + ", " + a[1] + ", 1)", x.pin(a[0], a[1], 1), a[3]);
        }
    }

    private static void pinCount(NetlistTexts x) {
        Check.sentence("5: k NONE: how many there are (what is not looked at)");
        for (int what : new int[] {0, 1, 2, -1, 63, MIN, MAX}) {
            Check.due("pin(0, NONE, " + what + ")", x.pin(0, NONE, what), 2);
            Check.due("pin(1, NONE, " + what + ")", x.pin(1, NONE, what), 0);
            Check.due("pin(2, NONE, " + what + ")", x.pin(2, NONE, what), 3);
        }
    }

    private static void noSuchPin(NetlistTexts x) {
        Check.sentence("5: IndexOutOfBoundsException likewise");
        int[][] none = {{0, 2, 0}, {0, 2, 1}, {1, 0, 0}, {1, 0, 1}, {2, 3, 0}, {2, 3, 1}, {0, 0, 2}, {0, 0, -1}, {0, 1, 2},
            {0, 0, MIN}, {0, 0, MAX}, {0, -2, 0}, {0, -2, 1}, {0, MIN, 0}, {0, MAX, 0}, {3, 0, 0}, {3, NONE, 0},
            {-1, 0, 0}, {-1, NONE, 0}, {MIN, NONE, 0}, {MAX, NONE, 0}, {40, NONE, 0}, {0, 160, 0}, {0, 4, 1}};
        for (int[] a : none) {
            Check.dueOutOfBounds("pin(" + a[0] + ", " + a[1] + ", " + a[2] + ")", () -> x.pin(a[0], a[1], a[2]));
        }
    }

    private static void partCharacters(NetlistTexts x) {
        Check.sentence("6: what = 64 * t + i: the i-th character of its name (t 0), value (1), footprint (2)");
        Check.due("part(0, 0)", x.part(0, 0), 'R');
        Check.due("part(0, 1)", x.part(0, 1), '1');
        Check.due("part(1, 64)", x.part(1, 64), '~');
        Check.due("part(1, 65)", x.part(1, 65), ' ');
        Check.due("part(2, 0)", x.part(2, 0), 'U');
        Check.due("part(3, 0)", x.part(3, 0), 'X');
        for (int i = 0; i < 24; i++) {
            Check.due("part(0, 128 + " + i + ")", x.part(0, 128 + i), MOST.charAt(i));
            Check.due("part(1, " + i + ")", x.part(1, i), MOST.charAt(i));
        }
    }

    private static void partLength(NetlistTexts x) {
        Check.sentence("6: i 63: how many");
        int[][] due = {{2, 0, 24}, {24, 2, 0}, {1, 0, 0}, {1, 0, 0}};
        for (int k = 0; k < due.length; k++) {
            Check.due("part(" + k + ", 63)", x.part(k, 63), due[k][0]);
            Check.due("part(" + k + ", 127)", x.part(k, 127), due[k][1]);
            Check.due("part(" + k + ", 191)", x.part(k, 191), due[k][2]);
        }
    }

    private static void noSuchPart(NetlistTexts x) {
        Check.sentence("6: IndexOutOfBoundsException likewise");
        int[][] none = {{0, 2}, {0, 62}, {0, 64}, {0, 126}, {0, 128 + 24}, {0, 190}, {0, 192}, {0, 255}, {0, -1}, {0, -64},
            {0, -65}, {0, MIN}, {0, MAX}, {1, 24}, {1, 66}, {1, 128}, {2, 1}, {2, 64}, {2, 128}, {3, 1}, {4, 63}, {4, 0},
            {39, 63}, {40, 63}, {-1, 63}, {-1, 0}, {MIN, 63}, {MAX, 63}, {MIN, 0}, {MAX, 191}};
        for (int[] a : none) {
            Check.dueOutOfBounds("part(" + a[0] + ", " + a[1] + ")", () -> x.part(a[0], a[1]));
        }
    }

    private static void unknownParts(NetlistTexts x) {
        Check.sentence("13: The k-th UNKNOWN part at hand");
        Check.due("unknown(0)", x.unknown(0), 2);
        Check.due("unknown(1)", x.unknown(1), 3);
    }

    private static void notSoMany(NetlistTexts x) {
        Check.sentence("13: NONE when there are not so many (or k is below 0)");
        for (int k : new int[] {2, 3, 4, 39, 40, MAX, -1, -2, MIN}) {
            Check.due("unknown(" + k + ")", x.unknown(k), NONE);
        }
        for (int form = 0; form <= 2; form++) {
            NetlistTexts told = new FormText(form).part("a", "", "").net("n", "1").pin("a", "1").reading();
            Check.due("unknown(0) where all are told", told.unknown(0), NONE);
            Check.due("unknown(-1) where all are told", told.unknown(-1), NONE);
            Check.due("unknown(0) of an empty list", new FormText(form).reading().unknown(0), NONE);
            Check.due("unknown(0) without a list", new NetlistTexts(form).unknown(0), NONE);
        }
    }

    private static void classes(NetlistTexts x) {
        Check.sentence("14: The CLASS of a net at hand");
        Check.due("cls(0)", x.cls(0), 0);
        Check.due("cls(1)", x.cls(1), 9);
        Check.due("cls(2)", x.cls(2), 5);
    }

    private static void noSuchClass(NetlistTexts x) {
        Check.sentence("14: IndexOutOfBoundsException likewise");
        for (int net : new int[] {3, 4, 39, 40, -1, -2, MIN, MAX}) {
            Check.dueOutOfBounds("cls(" + net + ")", () -> x.cls(net));
        }
    }

    /** The same edges of a list that holds as much as there may be. */
    private static void full(int form) {
        Check.sentence("4, 5, 6, 13, 14: of a full list");
        FormText text = new FormText(form);
        for (int i = 0; i < 20; i++) {
            text.part("p" + i, "v" + i, "f" + i);
        }
        for (int i = 0; i < 40; i++) {
            text.net("n" + i, "" + i % 10);
            for (int k = 0; k < 4; k++) {
                text.pin("p" + i, "" + (k + 1));
            }
        }
        NetlistTexts x = text.reading();
        Check.due("cls(39)", x.cls(39), 9);
        Check.dueOutOfBounds("cls(40)", () -> x.cls(40));
        Check.due("net(39, NONE)", x.net(39, NONE), 3);
        Check.due("net(39, 2)", x.net(39, 2), '9');
        Check.dueOutOfBounds("net(39, 3)", () -> x.net(39, 3));
        Check.dueOutOfBounds("net(40, 0)", () -> x.net(40, 0));
        Check.due("pin(39, 3, 0)", x.pin(39, 3, 0), 39);
        Check.due("pin(39, 3, 1)", x.pin(39, 3, 1), 4);
        Check.dueOutOfBounds("pin(39, 4, 0)", () -> x.pin(39, 4, 0));
        Check.dueOutOfBounds("pin(40, NONE, 0)", () -> x.pin(40, NONE, 0));
        Check.due("part(39, 2)", x.part(39, 2), '9');
        Check.due("part(39, 191)", x.part(39, 191), 0);
        Check.due("part(19, 129)", x.part(19, 129), '1');
        Check.dueOutOfBounds("part(40, 63)", () -> x.part(40, 63));
        Check.due("unknown(19)", x.unknown(19), 39);
        Check.due("unknown(20)", x.unknown(20), NONE);
    }
}
