import java.util.ArrayList;
import java.util.HashSet;
import java.util.List;
import java.util.Set;
import java.util.regex.Matcher;
import java.util.regex.Pattern;

/** The document once more, written with the Java library and without a thought of room: what each call owes. */
final class RunModel {
    static final class Pin {
        final int part;
        int number;

        Pin(int part, int number) {
            this.part = part;
            this.number = number;
        }
    }

    static final class Net {
        final String name;
        final int cls;
        final List<Pin> pins = new ArrayList<>();

        Net(String name, int cls) {
            this.name = name;
            this.cls = cls;
        }
    }

    static final class Listed {
        final List<String[]> parts = new ArrayList<>();
        final List<Net> nets = new ArrayList<>();
        final List<int[]> notes = new ArrayList<>();
        final Set<Integer> taken = new HashSet<>();
        int told;

        int partNamed(String name) {
            for (int k = 0; k < parts.size(); k++) {
                if (parts.get(k)[0].equals(name)) {
                    return k;
                }
            }
            return -1;
        }

        void addPart(String name, String value, String footprint) {
            parts.add(new String[] {name, value, footprint});
            told = parts.size();
        }

        void addPin(String name, String number) {
            if (partNamed(name) < 0) {
                parts.add(new String[] {name, "", ""});
            }
            nets.get(nets.size() - 1).pins.add(new Pin(partNamed(name), Integer.parseInt(number)));
        }

        Set<String> pinsOf(Net net) {
            Set<String> all = new HashSet<>();
            for (Pin pin : net.pins) {
                all.add(parts.get(pin.part)[0] + "\n" + pin.number);
            }
            return all;
        }
    }

    private static final Pattern WORD_1 = Pattern.compile("\"((?:\\\\.|[^\"\\\\])*)\"|[a-z]+|[0-9]+");

    private final int form;
    private final StringBuilder text = new StringBuilder();
    private final List<Listed> lists = new ArrayList<>();
    private List<int[]> renamed = new ArrayList<>();

    RunModel(int form) {
        this.form = Math.max(0, Math.min(2, form));
    }

    String unit(int u) {
        boolean taken = (u == 10 || u >= 32 && u <= 126) && text.length() < 4000;
        if (taken) {
            text.append((char) u);
        }
        return taken ? "true" : "false";
    }

    int read() {
        int place = new FaultModel(form, text.toString()).faultPlace();
        if (place >= 0) {
            return -1 - place;
        }
        Listed list = new Listed();
        if (form == 0) {
            readPlain(list);
        } else if (form == 1) {
            readLists(list);
        } else {
            readLong(list);
        }
        if (lists.size() == 4) {
            lists.remove(0);
        }
        lists.add(list);
        renamed = new ArrayList<>();
        return list.nets.size();
    }

    private static String ofToken(String token) {
        StringBuilder all = new StringBuilder();
        for (int i = 0; i < token.length(); i++) {
            char c = token.charAt(i);
            if (c == '\\') {
                i++;
                int which = "\\dshe".indexOf(token.charAt(i));
                all.append(which == 4 ? "" : "\\. #".substring(which, which + 1));
            } else {
                all.append(c);
            }
        }
        return all.toString();
    }

    private String[] lines() {
        return text.length() == 0 ? new String[0] : text.toString().split("\n");
    }

    private void readPlain(Listed list) {
        for (String line : lines()) {
            String[] words = line.split(" ");
            if (words[0].equals("part")) {
                list.addPart(ofToken(words[1]), ofToken(words[2]), ofToken(words[3]));
                continue;
            }
            list.nets.add(new Net(ofToken(words[1]), Integer.parseInt(words[2])));
            for (int i = 3; i < words.length; i++) {
                String[] pin = words[i].split("\\.");
                list.addPin(ofToken(pin[0]), pin[1]);
            }
        }
    }

    private void readLists(Listed list) {
        Matcher matcher = WORD_1.matcher(text);
        List<String> words = new ArrayList<>();
        while (matcher.find()) {
            String quoted = matcher.group(1);
            words.add(quoted == null ? matcher.group() : "\"" + quoted.replaceAll("\\\\(.)", "$1"));
        }
        for (int i = 0; i < words.size(); i++) {
            String word = words.get(i);
            if (word.equals("part")) {
                list.addPart(words.get(i + 1).substring(1), words.get(i + 2).substring(1), words.get(i + 3).substring(1));
            } else if (word.equals("net")) {
                list.nets.add(new Net(words.get(i + 1).substring(1), Integer.parseInt(words.get(i + 2))));
            } else if (word.equals("pin")) {
                list.addPin(words.get(i + 1).substring(1), words.get(i + 2));
            }
        }
    }

    private static String ofReference(String token, List<String> longs) {
        return token.startsWith("#") ? longs.get(Integer.parseInt(token.substring(1))) : ofToken(token);
    }

    private void readLong(Listed list) {
        List<String> longs = new ArrayList<>();
        String section = "";
        for (String line : lines()) {
            String[] words = line.split(" ");
            if (words.length == 1) {
                section = line;
            } else if (section.equals("LONG")) {
                longs.add(ofToken(words[1]));
            } else if (section.equals("PARTS")) {
                list.addPart(ofReference(words[0], longs), ofReference(words[1], longs), ofReference(words[2], longs));
            } else if (line.startsWith(" ")) {
                list.addPin(ofReference(words[1], longs), words[2]);
            } else {
                list.nets.add(new Net(ofReference(words[0], longs), Integer.parseInt(words[1])));
            }
        }
    }

    private static IndexOutOfBoundsException none() {
        return new IndexOutOfBoundsException("due");
    }

    private static <E> E of(List<E> all, int k) {
        if (k < 0 || k >= all.size()) {
            throw none();
        }
        return all.get(k);
    }

    private Listed atHand() {
        return of(lists, lists.size() - 1);
    }

    private static int characterOf(String name, int i, int howMany) {
        if (i != howMany && (i < 0 || i >= name.length())) {
            throw none();
        }
        return i == howMany ? name.length() : name.charAt(i);
    }

    int net(int k, int i) {
        return characterOf(of(atHand().nets, k).name, i, -1);
    }

    int pin(int net, int k, int what) {
        List<Pin> pins = of(atHand().nets, net).pins;
        if (k == -1) {
            return pins.size();
        }
        Pin pin = of(pins, k);
        return of(List.of(pin.part, pin.number), what);
    }

    int part(int k, int what) {
        String[] texts = of(atHand().parts, k);
        return characterOf(of(List.of(texts), Math.floorDiv(what, 64)), Math.floorMod(what, 64), 63);
    }

    int write(int to, int i) {
        if (i < 0) {
            throw none();
        }
        if (lists.isEmpty()) {
            throw new IllegalStateException("due");
        }
        if (to < 0 || to > 2) {
            throw new IllegalArgumentException("due");
        }
        String all = written(to);
        return i < all.length() ? all.charAt(i) : -1;
    }

    private String written(int to) {
        return to == 0 ? plain() : to == 1 ? quotedLists() : withLongs();
    }

    /** A text as it is WRITTEN when it has been read: in form 2 with the long texts by their numbers. */
    static String rewritten(int form, String text) {
        RunModel model = new RunModel(form);
        model.text.append(text);
        return model.read() < 0 ? text : model.written(form);
    }

    private static String token(String plain, boolean hash) {
        String all = plain.replace("\\", "\\\\").replace(".", "\\d").replace(" ", "\\s");
        return plain.isEmpty() ? "\\e" : hash && plain.charAt(0) == '#' ? "\\h" + all.substring(1) : all;
    }

    private static String quoted(String plain) {
        return " \"" + plain.replace("\\", "\\\\").replace("\"", "\\\"") + "\"";
    }

    private String plain() {
        StringBuilder all = new StringBuilder();
        Listed list = atHand();
        for (String[] part : list.parts.subList(0, list.told)) {
            all.append("part " + token(part[0], false) + " " + token(part[1], false) + " " + token(part[2], false) + "\n");
        }
        for (Net net : list.nets) {
            all.append("net " + token(net.name, false) + " " + net.cls);
            for (Pin pin : net.pins) {
                all.append(" " + token(list.parts.get(pin.part)[0], false) + "." + pin.number);
            }
            all.append("\n");
        }
        return all.toString();
    }

    private String quotedLists() {
        StringBuilder all = new StringBuilder("(netlist");
        Listed list = atHand();
        for (String[] part : list.parts.subList(0, list.told)) {
            all.append("\n(part" + quoted(part[0]) + quoted(part[1]) + quoted(part[2]) + ")");
        }
        for (Net net : list.nets) {
            all.append("\n(net" + quoted(net.name) + " " + net.cls);
            for (Pin pin : net.pins) {
                all.append(" (pin" + quoted(list.parts.get(pin.part)[0]) + " " + pin.number + ")");
            }
            all.append(")");
        }
        return all.append(")\n").toString();
    }

    private static String shortened(String plain, List<String> longs) {
        if (plain.length() <= 8) {
            return token(plain, true);
        }
        if (!longs.contains(plain) && longs.size() < 100) {
            longs.add(plain);
        }
        return longs.contains(plain) ? String.format("#%02d", longs.indexOf(plain)) : token(plain, true);
    }

    private String withLongs() {
        List<String> longs = new ArrayList<>();
        StringBuilder rest = new StringBuilder("PARTS\n");
        Listed list = atHand();
        for (String[] part : list.parts.subList(0, list.told)) {
            rest.append(shortened(part[0], longs)).append(' ').append(shortened(part[1], longs)).append(' ');
            rest.append(shortened(part[2], longs)).append('\n');
        }
        rest.append("NETS\n");
        for (Net net : list.nets) {
            rest.append(shortened(net.name, longs)).append(' ').append(net.cls).append('\n');
            for (Pin pin : net.pins) {
                rest.append(' ').append(shortened(list.parts.get(pin.part)[0], longs)).append(' ').append(pin.number).append('\n');
            }
        }
        StringBuilder all = new StringBuilder("LONG\n");
        for (int i = 0; i < longs.size(); i++) {
            all.append(String.format("#%02d ", i)).append(token(longs.get(i), true)).append('\n');
        }
        return all.append(rest).append("END\n").toString();
    }

    int compare(int other) {
        Listed first = atHand();
        Listed second = of(lists, other);
        List<Net> left = new ArrayList<>(first.nets);
        List<Net> right = new ArrayList<>(second.nets);
        List<int[]> found = new ArrayList<>();
        // Pairs of just the same pins come ahead of all, as if they had more pins than any others.
        while (true) {
            Net bestA = null;
            Net bestB = null;
            int most = 0;
            for (Net a : left) {
                for (Net b : right) {
                    int weight = weight(first.pinsOf(a), second.pinsOf(b));
                    boolean less = bestA != null && (a.name + "\n" + b.name).compareTo(bestA.name + "\n" + bestB.name) < 0;
                    if (weight > most || weight == most && less) {
                        most = weight;
                        bestA = a;
                        bestB = b;
                    }
                }
            }
            if (most == 0) {
                break;
            }
            left.remove(bestA);
            right.remove(bestB);
            if (!bestA.name.equals(bestB.name)) {
                found.add(new int[] {first.nets.indexOf(bestA), second.nets.indexOf(bestB)});
            }
        }
        found.sort((p, q) -> p[0] - q[0]);
        renamed = found;
        return found.size();
    }

    private static int weight(Set<String> a, Set<String> b) {
        Set<String> common = new HashSet<>(a);
        common.retainAll(b);
        return common.isEmpty() ? 0 : a.equals(b) ? 1000 : common.size();
    }

    int renamed(int k, int side) {
        int[] pair = of(renamed, k);
        return of(List.of(pair[0], pair[1]), side);
    }

    int swap(int part, int pinA, int pinB) {
        Listed list = atHand();
        of(list.parts, part);
        if (Math.min(pinA, pinB) < 1 || Math.max(pinA, pinB) > 999 || pinA == pinB) {
            throw new IllegalArgumentException("due");
        }
        List<Pin> some = new ArrayList<>();
        for (Net net : list.nets) {
            for (Pin pin : net.pins) {
                if (pin.part == part && (pin.number == pinA || pin.number == pinB)) {
                    some.add(pin);
                }
            }
        }
        if (some.isEmpty() || list.notes.size() == 50) {
            return -1;
        }
        for (Pin pin : some) {
            pin.number = pinA + pinB - pin.number;
        }
        list.notes.add(new int[] {part, pinA, pinB});
        return list.notes.size();
    }

    int note(int k, int what) {
        int[] note = of(atHand().notes, k);
        return of(List.of(note[0], note[1], note[2]), what);
    }

    int take(int part) {
        Listed list = atHand();
        of(list.parts, part);
        list.taken.add(part);
        int count = 0;
        for (Net net : list.nets) {
            boolean ours = false;
            boolean others = false;
            for (Pin pin : net.pins) {
                ours |= list.taken.contains(pin.part);
                others |= !list.taken.contains(pin.part);
            }
            count += ours && others ? 1 : 0;
        }
        return count;
    }

    int unknown(int k) {
        if (lists.isEmpty() || k < 0 || k >= atHand().parts.size() - atHand().told) {
            return -1;
        }
        return atHand().told + k;
    }

    int cls(int net) {
        return of(atHand().nets, net).cls;
    }

    void clear() {
        text.setLength(0);
    }
}
