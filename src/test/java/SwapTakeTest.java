/** Promises 10 (swap), 11 (note) and 12 (take). */
public final class SwapTakeTest {
    private static final int MIN = Integer.MIN_VALUE;
    private static final int MAX = Integer.MAX_VALUE;

    public static void main(String[] args) {
        swaps();
        wrongSwaps();
        fiftyNotes();
        notesOfTheList();
        takes();
        Check.end("SwapTakeTest");
    }

    private static void swaps() {
        NetlistTexts x = Check.reading(0, "part a b c\nnet n 1 a.1 u.2 a.3\nnet m 1 u.1 a.2\n");
        Check.due("swap(0, 1, 2)", x.swap(0, 1, 2), 1);
        Check.due("pins of net 0", Check.pins(x, 0), "a/2 u/2 a/3");
        Check.due("pins of net 1", Check.pins(x, 1), "u/1 a/1");
        Check.due("swap(0, 3, 2) in one net", x.swap(0, 3, 2), 2);
        Check.due("pins of net 0", Check.pins(x, 0), "a/3 u/2 a/2");
        Check.due("swap(1, 2, 999): one alone stands", x.swap(1, 2, 999), 3);
        Check.due("swap(1, 7, 1): the second alone stands", x.swap(1, 7, 1), 4);
        Check.due("pins of net 0", Check.pins(x, 0), "a/3 u/999 a/2");
        Check.due("pins of net 1", Check.pins(x, 1), "u/7 a/1");
        Check.due("swap(1, 1, 2): none stands", x.swap(1, 1, 2), NetlistTexts.NONE);
        int[][] notes = {{0, 1, 2}, {0, 3, 2}, {1, 2, 999}, {1, 7, 1}};
        for (int k = 0; k < notes.length; k++) {
            for (int what = 0; what < 3; what++) {
                Check.due("note(" + k + ", " + what + ")", x.note(k, what), notes[k][what]);
            }
        }
        int[][] none = {{4, 0}, {-1, 0}, {0, 3}, {0, -1}, {MIN, 0}, {MAX, 0}, {0, MIN}, {0, MAX}};
        for (int[] a : none) {
            Check.dueOutOfBounds("note(" + a[0] + ", " + a[1] + ")", () -> x.note(a[0], a[1]));
        }
    }

    private static void wrongSwaps() {
        NetlistTexts x = Check.reading(0, "part a b c\nnet n 1 a.1\n");
        for (int part : new int[] {1, -1, MIN, MAX}) {
            Check.dueOutOfBounds("swap(" + part + ", 1, 2)", () -> x.swap(part, 1, 2));
            Check.dueOutOfBounds("swap(" + part + ", 0, 0)", () -> x.swap(part, 0, 0));
        }
        int[][] numbers = {{0, 1}, {1, 0}, {1, 1000}, {1000, 1}, {1, 1}, {5, 5}, {-1, 1}, {1, -1}, {MIN, 1}, {1, MAX}};
        for (int[] a : numbers) {
            Check.dueThrow("swap(0, " + a[0] + ", " + a[1] + ")", IllegalArgumentException.class,
                    () -> x.swap(0, a[0], a[1]));
        }
        Check.due("pins stay", Check.pins(x, 0), "a/1");
        Check.dueOutOfBounds("no note", () -> x.note(0, 0));
    }

    private static void fiftyNotes() {
        NetlistTexts x = Check.reading(0, "net n 1 a.1\n");
        for (int i = 1; i <= 50; i++) {
            Check.due("swap " + i, x.swap(0, i, i + 1), i);
        }
        Check.due("swap 51", x.swap(0, 51, 52), NetlistTexts.NONE);
        Check.due("pins stay", Check.pins(x, 0), "a/51");
        Check.due("note(49, 2)", x.note(49, 2), 51);
        Check.dueOutOfBounds("note(50, 0)", () -> x.note(50, 0));
        Check.dueThrow("swap(0, 0, 1) with 50 notes", IllegalArgumentException.class, () -> x.swap(0, 0, 1));
    }

    private static void notesOfTheList() {
        NetlistTexts x = Check.reading(0, "net n 1 a.1\n");
        x.swap(0, 1, 2);
        x.unit('?');
        x.read();
        Check.due("a note after a fault", x.note(0, 1), 1);
        Check.readNext(x, "net n 1 a.1\n");
        Check.dueOutOfBounds("a note of the new list", () -> x.note(0, 0));
        Check.due("the list before keeps its numbers", x.compare(0), 0);
        Check.readNext(x, "net m 1 a.2\n");
        Check.due("compare with the swapped list", x.compare(0), 1);
        Check.due("compare with the other one", x.compare(1), 0);
    }

    private static void takes() {
        NetlistTexts x = Check.reading(0, "part a b c\npart e b c\nnet n 1 a.1 u.2\nnet m 1 a.2 a.3\nnet o 1 e.1 u.1 u.3\n"
                + "net p 1\n");
        Check.due("take(0)", x.take(0), 1);
        Check.due("take(0) again", x.take(0), 1);
        Check.due("take(1)", x.take(1), 2);
        Check.due("take(2)", x.take(2), 0);
        for (int part : new int[] {3, -1, MIN, MAX}) {
            Check.dueOutOfBounds("take(" + part + ")", () -> x.take(part));
        }
        for (int i = 0; i < 5; i++) {
            x.read();
        }
        Check.due("take(2) of a new list", x.take(2), 2);
    }
}
