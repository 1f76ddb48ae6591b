/** The edges that promises 10 (swap), 11 (note) and 12 (take) name, sentence by sentence. */
public final class EdgeSwapTest {
    private static final int MIN = Integer.MIN_VALUE;
    private static final int MAX = Integer.MAX_VALUE;
    private static final int NONE = NetlistTexts.NONE;

    public static void main(String[] args) {
        for (int form = 0; form <= 2; form++) {
            changeNumbers(form);
            oneAlone(form);
            noneOfBoth(form);
            fifty(form);
            noSuchPart(form);
            noSuchNumber(form);
            bothTheSame(form);
            severalWrong(form);
            notes(form);
            noSuchNote(form);
            notesOfTheList(form);
            taken(form);
            takenAlready(form);
            pinsOfOthers(form);
            noSuchPartTaken(form);
            takenOfTheList(form);
        }
        Check.end("EdgeSwapTest");
    }

    /** Part 0 is told, parts 1 and 2 are unknown. */
    private static NetlistTexts small(int form) {
        return new FormText(form).part("a", "", "").net("n", "1").pin("a", "1").pin("u", "1").pin("a", "3").net("m", "2")
                .pin("v", "999").pin("a", "2").pin("u", "2").reading();
    }

    private static void duePins(NetlistTexts x, String first, String second) {
        Check.due("pins of net 0", Check.pins(x, 0), first);
        Check.due("pins of net 1", Check.pins(x, 1), second);
    }

    private static void changeNumbers(int form) {
        Check.sentence("10: Two pins of a part at hand change numbers: how many NOTES there are");
        NetlistTexts x = small(form);
        Check.due("swap(0, 1, 2) of two nets", x.swap(0, 1, 2), 1);
        duePins(x, "a/2 u/1 a/3", "v/999 a/1 u/2");
        Check.due("swap(0, 3, 2) of one net", x.swap(0, 3, 2), 2);
        duePins(x, "a/3 u/1 a/2", "v/999 a/1 u/2");
        Check.due("swap(1, 2, 1) of an unknown part", x.swap(1, 2, 1), 3);
        duePins(x, "a/3 u/2 a/2", "v/999 a/1 u/1");
    }

    private static void oneAlone(int form) {
        Check.sentence("10: (if one alone stands in nets, it gets the other number)");
        NetlistTexts x = small(form);
        Check.due("swap(0, 1, 4): the first one", x.swap(0, 1, 4), 1);
        duePins(x, "a/4 u/1 a/3", "v/999 a/2 u/2");
        Check.due("swap(0, 998, 2): the second one", x.swap(0, 998, 2), 2);
        duePins(x, "a/4 u/1 a/3", "v/999 a/998 u/2");
        Check.due("swap(2, 999, 1): the most and the least number", x.swap(2, 999, 1), 3);
        duePins(x, "a/4 u/1 a/3", "v/1 a/998 u/2");
        Check.due("swap(2, 999, 1): the other way", x.swap(2, 999, 1), 4);
        duePins(x, "a/4 u/1 a/3", "v/999 a/998 u/2");
        Check.due("swap(0, 1, 4): the number that is free now", x.swap(0, 1, 4), 5);
        duePins(x, "a/1 u/1 a/3", "v/999 a/998 u/2");
    }

    private static void noneOfBoth(int form) {
        Check.sentence("10: NONE when none of both stands there");
        NetlistTexts x = small(form);
        String seen = Check.seen(x);
        Check.due("swap(0, 4, 5)", x.swap(0, 4, 5), NONE);
        Check.due("swap(1, 3, 999): they stand with other parts", x.swap(1, 3, 999), NONE);
        Check.due("swap(2, 1, 2)", x.swap(2, 1, 2), NONE);
        Check.due("swap(2, 998, 1)", x.swap(2, 998, 1), NONE);
        Check.due("nothing changes", Check.seen(x), seen);
        NetlistTexts told = new FormText(form).part("a", "", "").net("n", "1").reading();
        Check.due("a part without pins", told.swap(0, 1, 2), NONE);
        Check.dueOutOfBounds("no note", () -> told.note(0, 0));
    }

    private static void fifty(int form) {
        Check.sentence("10: NONE when there are 50");
        NetlistTexts x = small(form);
        for (int i = 1; i <= 50; i++) {
            Check.due("swap " + i, x.swap(0, 1, 2), i);
        }
        String seen = Check.seen(x);
        duePins(x, "a/1 u/1 a/3", "v/999 a/2 u/2");
        Check.due("swap 51 of both", x.swap(0, 1, 2), NONE);
        Check.due("swap 51 of one alone", x.swap(0, 1, 9), NONE);
        Check.due("swap 51 of none", x.swap(0, 8, 9), NONE);
        Check.due("swap 51 of another part", x.swap(1, 1, 2), NONE);
        Check.due("nothing changes", Check.seen(x), seen);
        Check.due("note(49, 0)", x.note(49, 0), 0);
        Check.dueOutOfBounds("note(50, 0)", () -> x.note(50, 0));
        Check.dueOutOfBounds("swap(3, 1, 2)", () -> x.swap(3, 1, 2));
        Check.dueThrow("swap(0, 1, 1)", IllegalArgumentException.class, () -> x.swap(0, 1, 1));
        // None of the calls that answered NONE made a note: 49 of them and one more have room.
        NetlistTexts y = small(form);
        for (int i = 1; i <= 49; i++) {
            y.swap(0, 8, 9);
            Check.due("swap " + i, y.swap(0, 1, 2), i);
        }
        Check.due("the 50th", y.swap(1, 1, 9), 50);
        Check.due("the 51st", y.swap(1, 9, 1), NONE);
    }

    private static void noSuchPart(int form) {
        Check.sentence("10: IndexOutOfBoundsException, when there is no such part");
        NetlistTexts x = small(form);
        String seen = Check.seen(x);
        for (int part : new int[] {3, 4, 39, 40, -1, -2, MIN, MAX}) {
            Check.dueOutOfBounds("swap(" + part + ", 1, 2)", () -> x.swap(part, 1, 2));
        }
        Check.due("nothing changes", Check.seen(x), seen);
        Check.due("swap(2, 999, 1): the last part", x.swap(2, 999, 1), 1);
        Check.due("swap(0, 1, 2): the first part", x.swap(0, 1, 2), 2);
    }

    private static void noSuchNumber(int form) {
        Check.sentence("10: IllegalArgumentException, when a number is none");
        NetlistTexts x = small(form);
        String seen = Check.seen(x);
        int[][] wrong = {{0, 1}, {1, 0}, {1000, 1}, {1, 1000}, {-1, 1}, {1, -1}, {0, 1000}, {1000, 0}, {MIN, 1}, {1, MIN},
            {MAX, 1}, {1, MAX}, {0, 999}, {999, 1000}, {1001, 5}};
        for (int[] a : wrong) {
            Check.dueThrow("swap(0, " + a[0] + ", " + a[1] + ")", IllegalArgumentException.class,
                    () -> x.swap(0, a[0], a[1]));
        }
        Check.due("nothing changes", Check.seen(x), seen);
        Check.due("swap(0, 1, 999)", x.swap(0, 1, 999), 1);
        Check.due("swap(0, 999, 1)", x.swap(0, 999, 1), 2);
    }

    private static void bothTheSame(int form) {
        Check.sentence("10: IllegalArgumentException, when both are the same");
        NetlistTexts x = small(form);
        String seen = Check.seen(x);
        for (int number : new int[] {1, 2, 3, 4, 500, 999, 0, 1000, -1}) {
            Check.dueThrow("swap(0, " + number + ", same)", IllegalArgumentException.class,
                    () -> x.swap(0, number, number));
        }
        Check.due("nothing changes", Check.seen(x), seen);
    }

    private static void severalWrong(int form) {
        Check.sentence("10: IndexOutOfBounds, then IllegalArgument");
        NetlistTexts x = small(form);
        Check.dueOutOfBounds("swap(3, 1, 1)", () -> x.swap(3, 1, 1));
        Check.dueOutOfBounds("swap(-1, 0, 1000)", () -> x.swap(-1, 0, 1000));
        NetlistTexts none = new NetlistTexts(form);
        Check.dueOutOfBounds("swap(0, 1, 1) without a list", () -> none.swap(0, 1, 1));
    }

    private static void notes(int form) {
        Check.sentence("11: Of the k-th NOTE, from 0: its part (what 0), both numbers as they were told (1, 2)");
        NetlistTexts x = small(form);
        int[][] told = {{0, 1, 2}, {0, 2, 1}, {2, 999, 1}, {2, 999, 1}, {1, 7, 2}, {0, 999, 3}};
        for (int k = 0; k < told.length; k++) {
            Check.due("swap " + k, x.swap(told[k][0], told[k][1], told[k][2]), k + 1);
        }
        for (int k = 0; k < told.length; k++) {
            for (int what = 0; what < 3; what++) {
                Check.due("note(" + k + ", " + what + ")", x.note(k, what), told[k][what]);
            }
        }
    }

    private static void noSuchNote(int form) {
        Check.sentence("11: IndexOutOfBoundsException likewise");
        NetlistTexts x = small(form);
        Check.dueOutOfBounds("note(0, 0) ahead of swap()", () -> x.note(0, 0));
        x.swap(0, 1, 2);
        x.swap(0, 1, 2);
        Check.due("note(1, 2)", x.note(1, 2), 2);
        int[][] none = {{2, 0}, {3, 0}, {49, 0}, {50, 0}, {-1, 0}, {-1, 2}, {MIN, 0}, {MAX, 0}, {0, 3}, {0, -1}, {1, 3},
            {1, -1}, {0, MIN}, {0, MAX}, {1, -3}};
        for (int[] a : none) {
            Check.dueOutOfBounds("note(" + a[0] + ", " + a[1] + ")", () -> x.note(a[0], a[1]));
        }
    }

    private static void notesOfTheList(int form) {
        Check.sentence("11: of the list at hand");
        NetlistTexts x = small(form);
        x.swap(0, 1, 2);
        Check.due("read() of the same text", x.read(), 2);
        Check.dueOutOfBounds("note(0, 0) of the new list", () -> x.note(0, 0));
        duePins(x, "a/1 u/1 a/3", "v/999 a/2 u/2");
        for (int i = 1; i <= 50; i++) {
            Check.due("swap " + i + " of the new list", x.swap(0, 1, 2), i);
        }
        x.unit('?');
        Check.due("read() with a fault", x.read() < 0, true);
        Check.due("note(49, 1) after the fault", x.note(49, 1), 1);
        Check.due("swap 51 after the fault", x.swap(0, 1, 2), NONE);
        // After five more lists the rows of the first one are used again.
        String whole = new FormText(form).net("n", "1").pin("q", "5").text();
        for (int i = 0; i < 6; i++) {
            Check.readNext(x, whole);
            Check.dueOutOfBounds("note(0, 0) of list " + i, () -> x.note(0, 0));
            Check.due("swap of list " + i, x.swap(0, 5, 6), 1);
        }
    }

    private static void taken(int form) {
        Check.sentence("12: A part at hand is TAKEN: how many nets that have pins of TAKEN ones have pins of others, too");
        NetlistTexts x = small(form);
        Check.due("take(2): one net", x.take(2), 1);
        Check.due("take(0): two nets", x.take(0), 2);
        Check.due("take(1): no others are left", x.take(1), 0);
        NetlistTexts y = small(form);
        Check.due("take(1): two nets", y.take(1), 2);
        Check.due("take(0): one net without others", y.take(0), 1);
        Check.due("take(2)", y.take(2), 0);
    }

    private static void takenAlready(int form) {
        Check.sentence("12: (or is already)");
        NetlistTexts x = small(form);
        for (int i = 0; i < 3; i++) {
            Check.due("take(2) again", x.take(2), 1);
        }
        Check.due("take(0)", x.take(0), 2);
        Check.due("take(2) again", x.take(2), 2);
        Check.due("take(1)", x.take(1), 0);
        Check.due("take(1) again", x.take(1), 0);
    }

    private static void pinsOfOthers(int form) {
        Check.sentence("12: nets without pins, of TAKEN ones alone, of others alone");
        NetlistTexts x = new FormText(form).part("a", "", "").part("b", "", "").part("c", "", "").net("none", "1")
                .net("one", "1").pin("a", "1").net("alone", "1").pin("a", "2").pin("a", "3").net("others", "1").pin("c", "1")
                .net("first", "1").pin("a", "4").pin("u", "1").net("last", "1").pin("u", "2").pin("a", "5").reading();
        Check.due("take(1): a part without pins", x.take(1), 0);
        Check.due("take(0)", x.take(0), 2);
        Check.due("take(2): alone in its net", x.take(2), 2);
        Check.due("take(3)", x.take(3), 0);
        FormText full = new FormText(form);
        for (int i = 0; i < 40; i++) {
            full.net("n" + i, "1").pin("x", "" + (i + 1)).pin("y", "" + (i + 1));
        }
        NetlistTexts y = full.reading();
        Check.due("take(0): 40 nets", y.take(0), 40);
        Check.due("take(1): none", y.take(1), 0);
        NetlistTexts swapped = small(form);
        swapped.swap(2, 999, 1);
        Check.due("take(2) after swap()", swapped.take(2), 1);
    }

    private static void noSuchPartTaken(int form) {
        Check.sentence("12: IndexOutOfBoundsException likewise");
        NetlistTexts x = small(form);
        for (int part : new int[] {3, 4, 39, 40, -1, -2, MIN, MAX}) {
            Check.dueOutOfBounds("take(" + part + ")", () -> x.take(part));
        }
        Check.due("take(2): nothing else was taken", x.take(2), 1);
        FormText full = new FormText(form).parts(40).net("n", "1").pin("p39", "1").pin("p0", "1");
        NetlistTexts y = full.reading();
        Check.due("take(39)", y.take(39), 1);
        Check.dueOutOfBounds("take(40)", () -> y.take(40));
        Check.due("take(0)", y.take(0), 0);
    }

    private static void takenOfTheList(int form) {
        Check.sentence("12: A part at hand (not one of the list before)");
        NetlistTexts x = small(form);
        x.take(0);
        x.take(1);
        x.unit('?');
        Check.due("read() with a fault", x.read() < 0, true);
        Check.due("take(2) after the fault", x.take(2), 0);
        String whole = new FormText(form).part("a", "", "").net("n", "1").pin("a", "1").pin("u", "1").pin("v", "1").text();
        for (int i = 0; i < 7; i++) {
            Check.readNext(x, whole);
            Check.due("take(1) of list " + i, x.take(1), 1);
            Check.due("take(0) of list " + i, x.take(0), 1);
            Check.due("take(2) of list " + i, x.take(2), 0);
        }
    }
}
