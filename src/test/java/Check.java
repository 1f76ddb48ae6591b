/** What the tests share: the count of wrong answers, texts put in, lists and writings read out. */
final class Check {
    interface Call {
        void run();
    }

    private static int asked = 0;
    private static int wrong = 0;
    private static String sentence = "";
    private static int askedAtSentence = 0;

    private Check() {
    }

    /** What is asked from here on tests this sentence of the document; the one before must have asked something. */
    static void sentence(String words) {
        endSentence();
        sentence = words;
        askedAtSentence = asked;
    }

    private static void endSentence() {
        if (!sentence.isEmpty() && asked == askedAtSentence) {
            tellWrong("nothing was asked");
        }
    }

    private static void tellWrong(String what) {
        wrong++;
        System.out.println(sentence.isEmpty() ? what : "\"" + sentence + "\": " + what);
    }

    static void due(String call, long got, long want) {
        asked++;
        if (got != want) {
            tellWrong(call + " answered " + got + ", due is " + want);
        }
    }

    static void due(String call, boolean got, boolean want) {
        due(call, got ? 1 : 0, want ? 1 : 0);
    }

    static void due(String call, String got, String want) {
        asked++;
        if (!got.equals(want)) {
            tellWrong(call + " answered <" + got + ">, due is <" + want + ">");
        }
    }

    static void dueThrow(String call, Class<? extends RuntimeException> want, Call run) {
        asked++;
        String got = "nothing";
        try {
            run.run();
        } catch (RuntimeException e) {
            got = e.getClass().getSimpleName();
        }
        if (!got.equals(want.getSimpleName())) {
            tellWrong(call + " threw " + got + ", due is " + want.getSimpleName());
        }
    }

    static void dueOutOfBounds(String call, Call run) {
        dueThrow(call, IndexOutOfBoundsException.class, run);
    }

    /** Ends the test: exit code 1 when an answer was wrong, or none was asked for. */
    static void end(String name) {
        endSentence();
        System.out.println(name + ": " + asked + " answers asked for, " + wrong + " wrong");
        if (wrong != 0 || asked == 0) {
            System.exit(1);
        }
    }

    static void put(NetlistTexts x, String text) {
        for (int i = 0; i < text.length(); i++) {
            if (!x.unit(text.charAt(i))) {
                throw new IllegalStateException("refused at " + i + " of " + text);
            }
        }
    }

    static NetlistTexts with(int form, String text) {
        NetlistTexts x = new NetlistTexts(form);
        put(x, text);
        return x;
    }

    /** An object with the list of a text at hand. */
    static NetlistTexts reading(int form, String text) {
        NetlistTexts x = with(form, text);
        int nets = x.read();
        if (nets < 0) {
            throw new IllegalStateException("fault " + nets + " in " + text);
        }
        return x;
    }

    static void readNext(NetlistTexts x, String text) {
        x.clear();
        put(x, text);
        if (x.read() < 0) {
            throw new IllegalStateException("fault in " + text);
        }
    }

    static void dueRead(int form, String text, int want) {
        due("form " + form + ", read() of <" + text + ">", with(form, text).read(), want);
    }

    /** A fault is due at the place of the mark ^, which is not part of the text. */
    static void dueFault(int form, String marked) {
        int place = marked.indexOf('^');
        String text = marked.substring(0, place) + marked.substring(place + 1);
        dueRead(form, text, -1 - place);
    }

    static String written(NetlistTexts x, int form) {
        StringBuilder all = new StringBuilder();
        for (int i = 0; x.write(form, i) != NetlistTexts.NONE; i++) {
            all.append((char) x.write(form, i));
        }
        return all.toString();
    }

    static String netName(NetlistTexts x, int k) {
        StringBuilder name = new StringBuilder();
        for (int i = 0; i < x.net(k, NetlistTexts.NONE); i++) {
            name.append((char) x.net(k, i));
        }
        return name.toString();
    }

    static String partText(NetlistTexts x, int k, int which) {
        StringBuilder text = new StringBuilder();
        for (int i = 0; i < x.part(k, 64 * which + 63); i++) {
            text.append((char) x.part(k, 64 * which + i));
        }
        return text.toString();
    }

    /** The pins of a net as name/number, a space between. */
    static String pins(NetlistTexts x, int net) {
        StringBuilder all = new StringBuilder();
        for (int k = 0; k < x.pin(net, NetlistTexts.NONE, 0); k++) {
            all.append(k == 0 ? "" : " ").append(partText(x, x.pin(net, k, 0), 0));
            all.append('/').append(x.pin(net, k, 1));
        }
        return all.toString();
    }

    /** All that calls tell of the list at hand without a change: its writing, notes, unknown parts, renamed pairs. */
    static String seen(NetlistTexts x) {
        StringBuilder all = new StringBuilder(written(x, 1));
        for (int k = 0; k < 50 && has(x, k, true); k++) {
            all.append("note ").append(x.note(k, 0)).append(' ').append(x.note(k, 1)).append(' ').append(x.note(k, 2));
        }
        for (int k = 0; x.unknown(k) != NetlistTexts.NONE; k++) {
            all.append("unknown ").append(x.unknown(k)).append(' ').append(partText(x, x.unknown(k), 0));
        }
        for (int k = 0; k < 40 && has(x, k, false); k++) {
            all.append("renamed ").append(x.renamed(k, 0)).append(' ').append(x.renamed(k, 1));
        }
        return all.toString();
    }

    private static boolean has(NetlistTexts x, int k, boolean note) {
        try {
            return (note ? x.note(k, 0) : x.renamed(k, 0)) >= 0;
        } catch (IndexOutOfBoundsException e) {
            return false;
        }
    }

    static String repeat(String text, int times) {
        return text.repeat(times);
    }
}
