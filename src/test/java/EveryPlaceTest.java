/**
 * "A FAULT's place", for each place of a text at which it may end or go on wrongly: whole texts are cut off there,
 * or one character is left out, put in, put in the next one's place, or put there as the last one; each character
 * that unit() takes has its turn. FaultModel says what is due.
 */
public final class EveryPlaceTest {
    private static final String MOST = "abcdefghijklmnopqrstuvwx";
    private static final String[][] WHOLE = {
        {"part a b \\e\npart \\d c \\\\\\s\nnet n 1 a.1 u.23 a.123\nnet a 9\nnet \\d 0 \\d.1\n",
            "part " + MOST + " \\e #\npart e h d\nnet e 1 e.1 e.12 e.123 e.124 h.1\nnet " + MOST + " 1\n",
            "net n 1 n.1\nnet net 2 part.9 net.99\n"},
        {" (\nnetlist (part \"a\" \"\\\"\" \"\")\n( part\n\"\\\\\" \"b c\" \"(\" )(net \"n\" 1 (pin \"a\" 1)(pin \"u\" 23))\n(net \"a\" 9) ) \n",
            "(netlist(net \"" + MOST + "\" 0(pin \"n\" 1)(pin \"n\" 12)(pin \"n\" 123)(pin \"n\" 124))( net \"\\\"\\\\\" 5))",
            "(netlist (part \"n\" \"\" \"" + MOST + "\") (part \"p\" \"p\" \"p\"))"},
        {"LONG\n#00 123456789\n#01 \\h2345678\\d\nPARTS\na #00 \\e\n\\hb c #01\nNETS\nn 1\n a 1\n #00 23\n a 123\n a 124\nm 9\nEND\n",
            "LONG\nPARTS\nNETS a b\nN \\e \\e\nEND \\s# \\\\\nNETS\nEND 1\n END 1\n NETS 12\nE 2\n N 9\nNETS 0\nEND\n",
            "LONG\n#00 " + MOST + "\n#01 NETSNETSN\nPARTS\n#01 #00 #00\nNETS\n" + MOST + " 1\n #01 1\n #00 1\nEND\n"}};

    public static void main(String[] args) {
        for (int form = 0; form <= 2; form++) {
            for (String whole : WHOLE[form]) {
                Check.due("<" + whole + "> is whole", Check.with(form, whole).read() >= 0, true);
                everyPlace(form, whole);
            }
            cutAndGoingOn(form, new FormText(form).parts(40).net("n0", "1").pin("p0", "1").text());
            cutAndGoingOn(form, new FormText(form).part("q", "", "").nets(40).text());
            cutAndGoingOn(form, unknownParts(form));
        }
        Check.end("EveryPlaceTest");
    }

    private static String unknownParts(int form) {
        FormText text = new FormText(form).net("n", "1");
        for (int i = 0; i < 40; i++) {
            text.pin("u" + i, "1");
        }
        return text.text();
    }

    private static void dueAsModel(int form, String text) {
        int place = new FaultModel(form, text).faultPlace();
        int got = Check.with(form, text).read();
        Check.due("form " + form + ", fault of <" + text + ">", got < 0 ? -1 - got : -1, place);
    }

    private static void everyPlace(int form, String whole) {
        for (int at = 0; at <= whole.length(); at++) {
            String head = whole.substring(0, at);
            String tail = whole.substring(at);
            String rest = tail.isEmpty() ? "" : tail.substring(1);
            dueAsModel(form, head);
            dueAsModel(form, head + rest);
            for (int u = 31; u <= 126; u++) {
                String character = String.valueOf(u == 31 ? '\n' : (char) u);
                dueAsModel(form, head + character);
                dueAsModel(form, head + character + tail);
                dueAsModel(form, head + character + rest);
            }
        }
    }

    /** A list with as many parts or nets as there may be: cut off, and going on with one more part, net or pin. */
    private static void cutAndGoingOn(int form, String whole) {
        String[] more = form == 0 ? new String[] {"part x y z\n", "net x 1\n", "net x 1 x.1\n", " x.1\n", " p0.9\n", "x", "\\e"}
                : form == 1 ? new String[] {"(part \"x\" \"\" \"\")", "(net \"x\" 1)", "(net \"x\" 1 (pin \"x\" 1))", "(pin \"x\" 1)", "\"x\"", "\"\""}
                : new String[] {"x y z\n", "x 1\n", "x 1\n x 1\n", " x 1\n", "NETS\n", "NETS", "NET", "END\n", "END", "EN", "\\e"};
        for (int at = 0; at <= whole.length(); at++) {
            dueAsModel(form, whole.substring(0, at));
            for (String some : more) {
                dueAsModel(form, whole.substring(0, at) + some);
                dueAsModel(form, whole.substring(0, at) + some + whole.substring(at));
            }
        }
    }
}
