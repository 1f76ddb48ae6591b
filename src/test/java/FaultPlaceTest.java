import java.util.ArrayList;
import java.util.HashMap;
import java.util.HashSet;
import java.util.List;
import java.util.Map;
import java.util.Random;
import java.util.Set;
import java.util.regex.Matcher;
import java.util.regex.Pattern;

/**
 * Promise 3 against a model of another kind: regular expressions say where no text goes on, and a walk over
 * the words ahead of that place asks for names, pins, references and long texts.
 */
public final class FaultPlaceTest {
    private static final String PLAIN = "(?:[!-\\-/-\\[\\]-~]|\\\\[\\\\ds])";
    private static final String TOKEN_0 = "(?:\\\\e|" + PLAIN + "{1,24})";
    private static final String TOKEN_2 = "(?:\\\\e|(?:(?!#)" + PLAIN + "|\\\\h)" + PLAIN + "{0,23})";
    private static final String TEXT_2 = "(?:" + TOKEN_2 + "|#[0-9][0-9])";
    private static final String NUMBER = "[1-9][0-9]{0,2}";
    private static final String BLANKS = "[ \n]*";
    private static final String GAP = "[ \n]+";
    private static final String QUOTED = GAP + "\"(?:[ !#-\\[\\]-~]|\\\\[\\\\\"]){0,24}\"";
    private static final String OPEN = BLANKS + "\\(" + BLANKS;
    private static final String CLOSE = BLANKS + "\\)";
    private static final Pattern[] FORMS = {
        Pattern.compile("(?:part " + TOKEN_0 + " " + TOKEN_0 + " " + TOKEN_0 + "\n)*"
                + "(?:net " + TOKEN_0 + " [0-9](?: " + TOKEN_0 + "\\." + NUMBER + ")*\n)*"),
        Pattern.compile(OPEN + "netlist(?:" + OPEN + "part" + QUOTED + QUOTED + QUOTED + CLOSE + ")*"
                + "(?:" + OPEN + "net" + QUOTED + GAP + "[0-9]"
                + "(?:" + OPEN + "pin" + QUOTED + GAP + NUMBER + CLOSE + ")*" + CLOSE + ")*" + CLOSE + BLANKS),
        Pattern.compile("LONG\n(?:#00 " + TOKEN_2 + "\n(?:#01 " + TOKEN_2 + "\n(?:#02 " + TOKEN_2 + "\n)?)?)?"
                + "PARTS\n(?:" + TEXT_2 + " " + TEXT_2 + " " + TEXT_2 + "\n)*"
                + "NETS\n(?:" + TEXT_2 + " [0-9]\n(?: " + TEXT_2 + " " + NUMBER + "\n)*)*END\n")};

    private static final Pattern WORD_1 = Pattern.compile("\"(?:\\\\.|[^\"\\\\])*\"|[a-z]+|[0-9]+");

    private static final List<String> SECTIONS = List.of("", "LONG", "PARTS", "NETS", "END", "");

    private final int form;
    private final String text;
    private final int base;
    private final Set<String> parts = new HashSet<>();
    private final Set<String> nets = new HashSet<>();
    private final Set<String> pins = new HashSet<>();
    private final Map<String, String> longs = new HashMap<>();
    private String section = "";
    private int place;

    private FaultPlaceTest(int form, String text) {
        this.form = form;
        this.text = text;
        this.base = basePlace();
    }

    public static void main(String[] args) {
        Random random = new Random(3);
        int[] kinds = new int[3];
        for (int run = 0; run < 60000; run++) {
            int form = run % 3;
            String text = spoilt(random, sample(random, form));
            FaultPlaceTest model = new FaultPlaceTest(form, text);
            int due = model.faultPlace();
            kinds[due == -1 ? 0 : due == model.base ? 1 : 2]++;
            int got = Check.with(form, text).read();
            Check.due("form " + form + ", fault of <" + text + ">", got < 0 ? -1 - got : -1, due);
        }
        Check.due("texts without, with base faults and with others are all there",
                kinds[0] > 1000 && kinds[1] > 1000 && kinds[2] > 1000, true);
        Check.end("FaultPlaceTest");
    }

    /** The place by the regular expression alone; -1 when all of the text is right. */
    private int basePlace() {
        for (int end = 1; end <= text.length(); end++) {
            Matcher matcher = FORMS[form].matcher(text.substring(0, end));
            if (!matcher.matches() && !matcher.hitEnd()) {
                return end - 1;
            }
        }
        return FORMS[form].matcher(text).matches() ? -1 : text.length();
    }

    private int faultPlace() {
        place = -1;
        String good = base < 0 ? text : text.substring(0, base);
        if (form == 1) {
            walkLists(good);
        } else {
            int start = 0;
            for (String line : good.split("\n")) {
                if (place < 0) {
                    walkLine(line, start);
                }
                start += line.length() + 1;
            }
        }
        return place < 0 ? base : place;
    }

    private void fault(int at) {
        if (place < 0) {
            place = at;
        }
    }

    /** Whether a word that is right up to its end has ended there: no character follows that belongs to it. */
    private boolean ended(String word, int end, String more) {
        if (word.equals("\\e") || form == 2 && word.matches("#[0-9][0-9]")) {
            return true;
        }
        return end >= text.length() || more.indexOf(text.charAt(end)) < 0;
    }

    private boolean tokenEnded(String token, int end) {
        if (token.isEmpty() || token.matches("(?:[^\\\\]|\\\\.)*\\\\") || form == 2 && token.matches("#[0-9]?")) {
            return false;
        }
        StringBuilder more = new StringBuilder();
        for (char c = 33; c < 127; c++) {
            more.append(c == '.' ? "" : c);
        }
        return ended(token, end, more.toString());
    }

    private String plainText(String token) {
        if (form == 2 && token.startsWith("#")) {
            return longs.get(token);
        }
        return token.replace("\\e", "").replace("\\\\", "\0").replace("\\d", ".").replace("\\s", " ")
                .replace("\\h", "#").replace("\0", "\\");
    }

    private void askName(Set<String> names, String token, int at) {
        if (!tokenEnded(token, at + token.length())) {
            return;
        }
        String name = plainText(token);
        if (name == null || name.isEmpty() || names != null && !names.add(name)) {
            fault(at);
        }
    }

    private void askPin(String part, String number, int at, int end) {
        if (!number.isEmpty() && ended(number, end, "0123456789") && !pins.add(part + "\n" + number)) {
            fault(at);
        }
    }

    private void walkLine(String line, int start) {
        String[] words = line.split(" ", -1);
        int[] at = new int[words.length];
        for (int i = 0, next = start; i < words.length; i++) {
            at[i] = next;
            next += words[i].length() + 1;
        }
        if (form == 0) {
            walkPlain(words, at);
        } else {
            walkLong(words, at, line, start + line.length());
        }
    }

    private void walkPlain(String[] words, int[] at) {
        if (words.length > 1) {
            askName(words[0].equals("part") ? parts : nets, words[1], at[1]);
        }
        for (int i = 3; i < words.length && words[0].equals("net"); i++) {
            int point = words[i].indexOf('.');
            String part = point < 0 ? words[i] : words[i].substring(0, point);
            askName(null, part, at[i]);
            if (point >= 0) {
                askPin(plainText(part), words[i].substring(point + 1), at[i], at[i] + words[i].length());
            }
        }
    }

    private void walkLong(String[] words, int[] at, String line, int end) {
        boolean whole = end < text.length() && text.charAt(end) == '\n';
        String next = SECTIONS.get(SECTIONS.indexOf(section) + 1);
        if (line.equals(next) && whole) {
            section = next;
        } else if (section.equals("LONG") && words.length > 1) {
            if (tokenEnded(words[1], end) && plainText(words[1]).length() <= 8) {
                fault(at[1]);
            }
            longs.put(words[0], plainText(words[1]));
        } else if (section.equals("PARTS")) {
            askName(parts, words[0], at[0]);
            for (int i = 1; i < words.length; i++) {
                if (words[i].matches("#[0-9][0-9]") && !longs.containsKey(words[i])) {
                    fault(at[i]);
                }
            }
        } else if (section.equals("NETS") && line.startsWith(" ")) {
            askName(null, words[1], at[1]);
            if (words.length > 2) {
                askPin(plainText(words[1]), words[2], at[1], end);
            }
        } else if (section.equals("NETS")) {
            askName(nets, words[0], at[0]);
        }
    }

    private void walkLists(String good) {
        Matcher matcher = WORD_1.matcher(good);
        List<String> words = new ArrayList<>();
        List<Integer> at = new ArrayList<>();
        int last = 0;
        // A quote between two words opens a text that does not end: what stands behind it are no words.
        while (matcher.find() && good.substring(last, matcher.start()).indexOf('"') < 0) {
            words.add(matcher.group());
            at.add(matcher.start());
            last = matcher.end();
        }
        for (int i = 1; i < words.size(); i++) {
            String before = words.get(i - 1);
            String word = words.get(i);
            if (word.startsWith("\"")) {
                String name = word.substring(1, word.length() - 1);
                boolean twice = before.equals("part") && !parts.add(name) || before.equals("net") && !nets.add(name);
                boolean empty = name.isEmpty() && before.matches("part|net|pin");
                if (twice || empty) {
                    fault(at.get(i));
                }
            } else if (i > 1 && words.get(i - 2).equals("pin")) {
                askPin(before, word, at.get(i - 1), at.get(i) + word.length());
            }
        }
    }

    private static String pick(Random random, String... all) {
        return all[random.nextInt(all.length)];
    }

    private static String token(Random random, int form) {
        String some = pick(random, "a", "b", "R1", "R2", "E", "N", "NETS", "END", "U\\d1", "x\\\\", "part", "net");
        if (form == 2) {
            return pick(random, some, some, some, "#00", "#01", "\\hq", "\\e");
        }
        return pick(random, some, some, some, "#a", "q#", "\\e", Check.repeat("z", 23 + random.nextInt(3)));
    }

    private static String quoted(Random random) {
        return "\"" + pick(random, "a", "b", "c d", "\\\"", "R\\\\", "(", "R1", "R2", "", Check.repeat("z", 23 + random.nextInt(3))) + "\"";
    }

    private static String number(Random random) {
        return String.valueOf(random.nextInt(5) == 0 ? random.nextInt(1200) : 1 + random.nextInt(20));
    }

    private static String sample(Random random, int form) {
        int parts = random.nextInt(3);
        int nets = random.nextInt(4);
        return form == 0 ? samplePlain(random, parts, nets)
                : form == 1 ? sampleLists(random, parts, nets) : sampleLong(random, parts, nets);
    }

    private static String threeTokens(Random random, int form) {
        return token(random, form) + " " + token(random, form) + " " + token(random, form) + "\n";
    }

    private static String samplePlain(Random random, int parts, int nets) {
        StringBuilder all = new StringBuilder();
        for (int i = 0; i < parts; i++) {
            all.append("part ").append(threeTokens(random, 0));
        }
        for (int i = 0; i < nets; i++) {
            all.append("net ").append(token(random, 0)).append(" 1");
            for (int pins = random.nextInt(4); pins > 0; pins--) {
                all.append(' ').append(token(random, 0)).append('.').append(number(random));
            }
            all.append('\n');
        }
        return all.toString();
    }

    private static String sampleLists(Random random, int parts, int nets) {
        StringBuilder all = new StringBuilder("(netlist");
        for (int i = 0; i < parts; i++) {
            all.append(pick(random, "(", "\n( ")).append("part ");
            all.append(quoted(random)).append(' ').append(quoted(random)).append(' ').append(quoted(random)).append(')');
        }
        for (int i = 0; i < nets; i++) {
            all.append(" (net ").append(quoted(random)).append("  3");
            for (int pins = random.nextInt(4); pins > 0; pins--) {
                all.append("(pin ").append(quoted(random)).append('\n').append(number(random)).append(pick(random, ")", " )"));
            }
            all.append(')');
        }
        return all.append(pick(random, ")", " )\n")).toString();
    }

    private static String sampleLong(Random random, int parts, int nets) {
        StringBuilder all = new StringBuilder("LONG\n");
        all.append(pick(random, "", "#00 resistor10\n", "#00 resistor10\n#01 long\\stext\\d\n")).append("PARTS\n");
        for (int i = 0; i < parts; i++) {
            all.append(threeTokens(random, 2));
        }
        all.append("NETS\n");
        for (int i = 0; i < nets; i++) {
            all.append(token(random, 2)).append(" 7\n");
            for (int pins = random.nextInt(4); pins > 0; pins--) {
                all.append(' ').append(token(random, 2)).append(' ').append(number(random)).append('\n');
            }
        }
        return all.append("END\n").toString();
    }

    private static String spoilt(Random random, String text) {
        int way = random.nextInt(5);
        int at = random.nextInt(text.length() + 1);
        String head = text.substring(0, at);
        String tail = text.substring(at);
        String some = pick(random, "a", " ", "\n", "\\", ".", "#", "\"", "(", ")", "0", "1", "e", "p", "n", "\\e", "\\d", "#0", "#00");
        if (way == 0 || tail.isEmpty()) {
            return head;
        }
        return way == 1 ? head + some + tail : way == 2 ? head + some + tail.substring(1) : way == 3 ? head + tail.substring(1) : text;
    }
}
