import java.util.ArrayList;
import java.util.HashMap;
import java.util.HashSet;
import java.util.List;
import java.util.Map;
import java.util.Set;
import java.util.regex.Matcher;
import java.util.regex.Pattern;

/**
 * The place of a fault by a model of another kind than the class: regular expressions say where no text goes
 * on, and a walk over the words ahead of that place asks for names, pins, references and long texts.
 */
final class FaultModel {
    /** More long lines than a text of 512 characters can hold. */
    private static final int LONG_LINES = 36;

    private static final String PLAIN = "(?:[!-\\-/-\\[\\]-~]|\\\\[\\\\ds])";
    private static final String TOKEN_0 = "(?:\\\\e|" + PLAIN + "{1,24})";
    private static final String TOKEN_2 = "(?:\\\\e|(?:(?!#)" + PLAIN + "|\\\\h)" + PLAIN + "{0,23})";
    private static final String TEXT_2 = "(?:" + TOKEN_2 + "|#[0-9][0-9])";
    private static final String NUMBER = "[1-9][0-9]{0,2}";
    private static final String BLANKS = "[ \n]*";
    private static final String GAP = "[ \n]+";
    private static final String QUOTED = GAP + "\"(?:[ !#-\\[\\]-~]|\\\\[\\\\\"]){0,24}\"";
    private static final String OPEN = BLANKS + "\\(" + BLANKS;
    private static final String CLOSE = BLANKS + "\\)";
    private static final Pattern[] FORMS = {
        Pattern.compile("(?:part " + TOKEN_0 + " " + TOKEN_0 + " " + TOKEN_0 + "\n)*"
                + "(?:net " + TOKEN_0 + " [0-9](?: " + TOKEN_0 + "\\." + NUMBER + ")*\n)*"),
        Pattern.compile(OPEN + "netlist(?:" + OPEN + "part" + QUOTED + QUOTED + QUOTED + CLOSE + ")*"
                + "(?:" + OPEN + "net" + QUOTED + GAP + "[0-9]"
                + "(?:" + OPEN + "pin" + QUOTED + GAP + NUMBER + CLOSE + ")*" + CLOSE + ")*" + CLOSE + BLANKS),
        Pattern.compile("LONG\n" + longLines(0) + "PARTS\n(?:" + TEXT_2 + " " + TEXT_2 + " " + TEXT_2 + "\n)*"
                + "NETS\n(?:" + TEXT_2 + " [0-9]\n(?: " + TEXT_2 + " " + NUMBER + "\n)*)*END\n")};

    private static final Pattern WORD_1 = Pattern.compile("\"(?:\\\\.|[^\"\\\\])*\"|[a-z]+|[0-9]+");

    private static final Pattern BEGUN_ESCAPE = Pattern.compile("(?:[^\\\\]|\\\\.)*\\\\");
    private static final Pattern REFERENCE = Pattern.compile("#[0-9][0-9]");
    private static final Pattern BEGUN_REFERENCE = Pattern.compile("#[0-9]?");

    private static final List<String> SECTIONS = List.of("", "LONG", "PARTS", "NETS", "END", "");

    private static final String OF_TOKENS = charactersOfTokens();

    private final int form;
    private final String text;
    private final int base;
    private final Set<String> told = new HashSet<>();
    private final Set<String> parts = new HashSet<>();
    private final Set<String> nets = new HashSet<>();
    private final Set<String> pins = new HashSet<>();
    private final Map<String, String> longs = new HashMap<>();
    private String section = "";
    private int place;

    FaultModel(int form, String text) {
        this.form = form;
        this.text = text;
        this.base = wrongCharacter();
    }

    private static String charactersOfTokens() {
        StringBuilder all = new StringBuilder();
        for (char c = 33; c < 127; c++) {
            all.append(c == '.' ? "" : c);
        }
        return all.toString();
    }

    private static String longLines(int from) {
        return from == LONG_LINES ? "" : String.format("(?:#%02d ", from) + TOKEN_2 + "\n" + longLines(from + 1) + ")?";
    }

    /** The place by the regular expression alone; -1 when all of the text is right. */
    int basePlace() {
        return base;
    }

    private int wrongCharacter() {
        Pattern pattern = FORMS[form];
        // A text goes on with the first 'good' characters, with the first 'bad' ones none does.
        int good = 0;
        int bad = text.length() + 1;
        while (bad - good > 1) {
            int middle = (good + bad) / 2;
            Matcher matcher = pattern.matcher(text.substring(0, middle));
            if (matcher.matches() || matcher.hitEnd()) {
                good = middle;
            } else {
                bad = middle;
            }
        }
        return good < text.length() ? good : pattern.matcher(text).matches() ? -1 : good;
    }

    /** The place of the text's fault; -1 when there is none. */
    int faultPlace() {
        place = -1;
        String good = base < 0 ? text : text.substring(0, base);
        if (form == 1) {
            walkLists(good);
        } else {
            int start = 0;
            for (String line : good.split("\n")) {
                if (place < 0) {
                    walkLine(line, start);
                }
                start += line.length() + 1;
            }
        }
        return place < 0 ? base : place;
    }

    private void fault(int at) {
        if (place < 0) {
            place = at;
        }
    }

    private static boolean isAll(Pattern pattern, String word) {
        return pattern.matcher(word).matches();
    }

    /** Whether a word that is right up to its end has ended there: no character follows that belongs to it. */
    private boolean ended(String word, int end, String more) {
        if (word.equals("\\e") || form == 2 && isAll(REFERENCE, word)) {
            return true;
        }
        return end >= text.length() || more.indexOf(text.charAt(end)) < 0;
    }

    private boolean tokenEnded(String token, int end) {
        if (token.isEmpty() || isAll(BEGUN_ESCAPE, token) || form == 2 && isAll(BEGUN_REFERENCE, token)) {
            return false;
        }
        return ended(token, end, OF_TOKENS);
    }

    private String plainText(String token) {
        if (form == 2 && token.startsWith("#")) {
            return longs.get(token);
        }
        return token.replace("\\e", "").replace("\\\\", "\0").replace("\\d", ".").replace("\\s", " ")
                .replace("\\h", "#").replace("\0", "\\");
    }

    private void askToken(Set<String> names, String token, int at) {
        if (tokenEnded(token, at + token.length())) {
            askName(names, plainText(token), at);
        }
    }

    /** A name of a part told, of a net, or (the set of all parts) of the part of a pin, which may stand there. */
    private void askName(Set<String> names, String name, int at) {
        boolean there = name != null && names.contains(name);
        if (name == null || name.isEmpty() || there && names != parts || !there && names.size() == 40) {
            fault(at);
        } else {
            names.add(name);
        }
        if (names == told) {
            parts.add(name);
        }
    }

    private void askPin(String part, String number, int at, int end) {
        if (number.isEmpty() || !ended(number, end, "0123456789")) {
            return;
        }
        if (pins.size() == 160 || !pins.add(part + "\n" + number)) {
            fault(at);
        }
    }

    private void walkLine(String line, int start) {
        String[] words = line.split(" ", -1);
        int[] at = new int[words.length];
        for (int i = 0, next = start; i < words.length; i++) {
            at[i] = next;
            next += words[i].length() + 1;
        }
        if (form == 0) {
            walkPlain(words, at);
        } else {
            walkLong(words, at, line, start + line.length());
        }
    }

    private void walkPlain(String[] words, int[] at) {
        if (words.length > 1) {
            askToken(words[0].equals("part") ? told : nets, words[1], at[1]);
        }
        for (int i = 3; i < words.length && words[0].equals("net"); i++) {
            int point = words[i].indexOf('.');
            String part = point < 0 ? words[i] : words[i].substring(0, point);
            askToken(parts, part, at[i]);
            if (point >= 0) {
                askPin(plainText(part), words[i].substring(point + 1), at[i], at[i] + words[i].length());
            }
        }
    }

    private void walkLong(String[] words, int[] at, String line, int end) {
        boolean whole = end < text.length() && text.charAt(end) == '\n';
        String next = SECTIONS.get(SECTIONS.indexOf(section) + 1);
        if (line.equals(next) && whole) {
            section = next;
        } else if (section.equals("LONG") && words.length > 1) {
            if (tokenEnded(words[1], end) && plainText(words[1]).length() <= 8) {
                fault(at[1]);
            }
            longs.put(words[0], plainText(words[1]));
        } else if (section.equals("PARTS")) {
            askToken(told, words[0], at[0]);
            for (int i = 1; i < words.length; i++) {
                if (isAll(REFERENCE, words[i]) && !longs.containsKey(words[i])) {
                    fault(at[i]);
                }
            }
        } else if (section.equals("NETS") && line.startsWith(" ")) {
            askToken(parts, words[1], at[1]);
            if (words.length > 2) {
                askPin(plainText(words[1]), words[2], at[1], end);
            }
        } else if (section.equals("NETS")) {
            askToken(nets, words[0], at[0]);
        }
    }

    private void walkLists(String good) {
        Matcher matcher = WORD_1.matcher(good);
        List<String> words = new ArrayList<>();
        List<Integer> at = new ArrayList<>();
        int last = 0;
        // A quote between two words opens a text that does not end: what stands behind it are no words.
        while (matcher.find() && good.substring(last, matcher.start()).indexOf('"') < 0) {
            words.add(matcher.group());
            at.add(matcher.start());
            last = matcher.end();
        }
        for (int i = 1; i < words.size(); i++) {
            String before = words.get(i - 1);
            String word = words.get(i);
            if (word.startsWith("\"") && before.matches("part|net|pin")) {
                Set<String> names = before.equals("part") ? told : before.equals("net") ? nets : parts;
                askName(names, word.substring(1, word.length() - 1), at.get(i));
            } else if (i > 1 && words.get(i - 2).equals("pin")) {
                askPin(before, word, at.get(i - 1), at.get(i) + word.length());
            }
        }
    }
}
