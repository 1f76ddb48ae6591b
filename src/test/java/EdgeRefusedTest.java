import java.util.ArrayList;
import java.util.List;

/** Refused calls of every kind change nothing, whatever the state: no list, a small one, full ones, 50 notes. */
public final class EdgeRefusedTest {
    private static final int MIN = Integer.MIN_VALUE;
    private static final int MAX = Integer.MAX_VALUE;

    public static void main(String[] args) {
        for (int form = 0; form <= 2; form++) {
            noList(form);
            smallLists(form);
            fullLists(form);
        }
        Check.end("EdgeRefusedTest");
    }

    /** Calls that are refused where a list has so many nets and parts, with the exception that is due. */
    private static void refuse(NetlistTexts x, int nets, int parts, int lists) {
        List<Check.Call> calls = new ArrayList<>();
        for (int wrong : new int[] {-1, -2, MIN, MAX}) {
            calls.add(() -> x.net(wrong, -1));
            calls.add(() -> x.pin(wrong, -1, 0));
            calls.add(() -> x.part(wrong, 63));
            calls.add(() -> x.part(0, wrong));
            calls.add(() -> x.write(0, Math.min(wrong, -1)));
            calls.add(() -> x.compare(wrong));
            calls.add(() -> x.renamed(wrong, 0));
            calls.add(() -> x.renamed(0, wrong));
            calls.add(() -> x.swap(wrong, 1, 2));
            calls.add(() -> x.note(wrong, 0));
            calls.add(() -> x.note(0, wrong));
            calls.add(() -> x.take(wrong));
            calls.add(() -> x.cls(wrong));
        }
        calls.add(() -> x.net(nets, -1));
        calls.add(() -> x.net(0, 24));
        calls.add(() -> x.net(0, -2));
        calls.add(() -> x.pin(nets, -1, 0));
        calls.add(() -> x.pin(0, 160, 0));
        calls.add(() -> x.pin(0, 0, 2));
        calls.add(() -> x.part(parts, 63));
        calls.add(() -> x.part(0, 192));
        calls.add(() -> x.compare(lists));
        calls.add(() -> x.renamed(40, 0));
        calls.add(() -> x.renamed(0, 2));
        calls.add(() -> x.swap(parts, 1, 2));
        calls.add(() -> x.note(50, 0));
        calls.add(() -> x.note(0, 3));
        calls.add(() -> x.take(parts));
        calls.add(() -> x.cls(nets));
        for (int i = 0; i < calls.size(); i++) {
            Check.dueOutOfBounds("refused call " + i, calls.get(i));
        }
        for (int u : new int[] {-1, 9, 11, 31, 127, MIN, MAX}) {
            Check.due("unit(" + u + ")", x.unit(u), false);
        }
        for (int k : new int[] {-1, 40, MIN, MAX}) {
            Check.due("unknown(" + k + ")", x.unknown(k), NetlistTexts.NONE);
        }
    }

    private static void refuseArguments(NetlistTexts x) {
        Check.dueThrow("write(3, 0)", IllegalArgumentException.class, () -> x.write(3, 0));
        Check.dueThrow("write(-1, 0)", IllegalArgumentException.class, () -> x.write(-1, 0));
        Check.dueThrow("swap(0, 0, 1)", IllegalArgumentException.class, () -> x.swap(0, 0, 1));
        Check.dueThrow("swap(0, 1, 1000)", IllegalArgumentException.class, () -> x.swap(0, 1, 1000));
        Check.dueThrow("swap(0, 1, 1)", IllegalArgumentException.class, () -> x.swap(0, 1, 1));
    }

    private static void noList(int form) {
        Check.sentence("refused calls without a list change nothing");
        String whole = new FormText(form).net("n", "1").pin("p", "1").text();
        NetlistTexts x = Check.with(form, whole.substring(0, 3));
        refuse(x, 0, 0, 0);
        Check.dueThrow("write(0, 0)", IllegalStateException.class, () -> x.write(0, 0));
        Check.put(x, whole.substring(3));
        Check.due("read() of the text around them", x.read(), 1);
        Check.due("the list", Check.written(x, 0), "net n 1 p.1\n");
    }

    private static void smallLists(int form) {
        Check.sentence("refused calls with lists change nothing");
        NetlistTexts x = new FormText(form).net("m", "1").pin("p", "1").reading();
        String whole = new FormText(form).part("q", "v", "f").net("n", "1").pin("p", "1").pin("q", "2").text();
        Check.readNext(x, whole);
        x.swap(0, 2, 3);
        x.swap(0, 3, 2);
        x.take(0);
        Check.due("compare(0)", x.compare(0), 1);
        String seen = Check.seen(x);
        refuse(x, 1, 2, 2);
        refuseArguments(x);
        Check.due("swap(0, 8, 9)", x.swap(0, 8, 9), NetlistTexts.NONE);
        Check.due("list, notes, unknown parts, renamed pairs", Check.seen(x), seen);
        Check.due("take(1)", x.take(1), 0);
        Check.due("read() of the same text", x.read(), 1);
        Check.due("compare(1) with the list before", x.compare(1), 0);
        Check.due("compare(0)", x.compare(0), 1);
    }

    private static void fullLists(int form) {
        Check.sentence("refused calls with full lists change nothing");
        NetlistTexts x = new FormText(form).net("m", "1").pin("p0", "1").reading();
        String text = full(form);
        for (int i = 0; i < 4; i++) {
            Check.readNext(x, text);
        }
        for (int i = 0; i < 50; i++) {
            x.swap(0, 1, 999);
        }
        String seen = Check.seen(x);
        refuse(x, 40, 40, 4);
        refuseArguments(x);
        Check.due("swap(0, 1, 2) with 50 notes", x.swap(0, 1, 2), NetlistTexts.NONE);
        Check.due("list, notes, unknown parts, renamed pairs", Check.seen(x), seen);
        x.unit('?');
        Check.due("read() with a fault", x.read() < 0, true);
        Check.due("the list after a fault", Check.seen(x), seen);
        Check.due("compare(0) after a fault", x.compare(0), 0);
    }

    private static String full(int form) {
        FormText text = new FormText(form);
        for (int i = 0; i < 10; i++) {
            text.part("p" + i, "", "");
        }
        for (int i = 0; i < 40; i++) {
            text.net("n" + i, "1").pin("p" + i, "1").pin("p" + i, "2").pin("p" + i, "3").pin("p" + i, "4");
        }
        return text.text();
    }
}
