/**
 * A text in one of the three forms, put together item by item, so that one test can ask all forms. Of what is
 * handed in for a TOKEN, T, CLASS or NUMBER a ^ marks a place as in Check.dueFault (first: the place of the TOKEN
 * or of the T's quote), and a $ at its end cuts the text off right behind it.
 */
final class FormText {
    private final int form;
    private final StringBuilder all = new StringBuilder();
    private boolean cut = false;
    private boolean netsBegun = false;

    FormText(int form) {
        this.form = form;
        put(form == 1 ? "(netlist" : form == 2 ? "LONG\nPARTS\n" : "");
    }

    private void put(String raw) {
        if (!cut) {
            all.append(raw);
        }
    }

    private void putNumber(String raw) {
        boolean last = raw.endsWith("$");
        put(last ? raw.substring(0, raw.length() - 1) : raw);
        cut |= last;
    }

    private void putWord(String text) {
        boolean last = text.endsWith("$");
        String words = last ? text.substring(0, text.length() - 1) : text;
        if (words.startsWith("^")) {
            put("^");
            words = words.substring(1);
        }
        put(form == 1 ? "\"" + words.replace("\\", "\\\\").replace("\"", "\\\"") + "\"" : token(words));
        cut |= last;
    }

    private String token(String words) {
        if (words.isEmpty()) {
            return "\\e";
        }
        String escaped = words.replace("\\", "\\\\").replace(".", "\\d").replace(" ", "\\s");
        return form == 2 && escaped.startsWith("#") ? "\\h" + escaped.substring(1) : escaped;
    }

    FormText part(String name, String value, String footprint) {
        put(form == 0 ? "part " : form == 1 ? "\n(part " : "");
        putWord(name);
        put(" ");
        putWord(value);
        put(" ");
        putWord(footprint);
        put(form == 1 ? ")" : "\n");
        return this;
    }

    FormText net(String name, String cls) {
        endNet();
        put(form == 0 ? "net " : form == 1 ? "\n(net " : netsBegun ? "" : "NETS\n");
        netsBegun = true;
        putWord(name);
        put(" ");
        putNumber(cls);
        put(form == 2 ? "\n" : "");
        return this;
    }

    FormText pin(String part, String number) {
        put(form == 1 ? " (pin " : " ");
        putWord(part);
        put(form == 0 ? "." : " ");
        putNumber(number);
        put(form == 1 ? ")" : form == 2 ? "\n" : "");
        return this;
    }

    private void endNet() {
        if (netsBegun) {
            put(form == 0 ? "\n" : form == 1 ? ")" : "");
        }
    }

    FormText parts(int count) {
        for (int i = 0; i < count; i++) {
            part("p" + i, "", "");
        }
        return this;
    }

    FormText nets(int count) {
        for (int i = 0; i < count; i++) {
            net("n" + i, "1");
        }
        return this;
    }

    /** Pins of one part, numbered from a first one. */
    FormText pins(String part, int first, int count) {
        for (int i = 0; i < count; i++) {
            pin(part, "" + (first + i));
        }
        return this;
    }

    /** The text with its end, or as it was cut off. */
    String text() {
        endNet();
        put(form == 1 ? ")\n" : form == 2 ? (netsBegun ? "" : "NETS\n") + "END\n" : "");
        return all.toString();
    }

    void dueRead(int nets) {
        Check.dueRead(form, text(), nets);
    }

    void dueFault() {
        Check.dueFault(form, text());
    }

    /** A fault is due although characters stand behind the place where the text was cut off. */
    void dueFaultWith(String behind) {
        Check.dueFault(form, text() + behind);
    }

    NetlistTexts reading() {
        return Check.reading(form, text());
    }
}
