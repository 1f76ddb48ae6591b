/**
 * Netlists read from three forms of text and written in each; two lists are compared by structure,
 * pins swapped with notes, parts taken, unknown ones told.
 */
public final class NetlistTexts {
    public static final int NONE = -1;

    private static final int MOST_UNITS = 4000;
    private static final int MOST_LISTS = 4;
    private static final int MOST_PARTS = 40;
    private static final int MOST_NETS = 40;
    private static final int MOST_PINS = 160;
    private static final int MOST_CHARACTERS = 24;
    private static final int MOST_SHORT = 8;
    private static final int MOST_LONGS = 100;
    private static final int MOST_NOTES = 50;
    private static final int MOST_NUMBER = 999;

    private static final int LAST_FORM = 2;
    private static final int LINE_FEED = 10;
    private static final int FIRST_CHARACTER = 32;
    private static final int LAST_CHARACTER = 126;

    private static final int VALUE = 1;
    private static final int FOOTPRINT = 2;
    private static final int TEXTS_OF_PART = 3;
    private static final int FIRST_NET_TEXT = MOST_PARTS * TEXTS_OF_PART;
    private static final int TEXTS_OF_LIST = FIRST_NET_TEXT + MOST_NETS;

    private static final int NUMBERS_OF_NOTE = 3;
    private static final int TEXT_STEP = 64;
    private static final int HOW_MANY = 63;

    private final Reader reader;
    private final Writer writer;
    private final Matcher matcher;
    private final Netlist[] lists;
    private int listCount;

    public NetlistTexts(int form) {
        if (form <= 0) {
            reader = new PlainReader();
        } else if (form == 1) {
            reader = new ListReader();
        } else {
            reader = new LongReader();
        }
        writer = new Writer();
        matcher = new Matcher();
        lists = new Netlist[MOST_LISTS];
        listCount = 0;
    }

    public boolean unit(int u) {
        boolean character = u == LINE_FEED || u >= FIRST_CHARACTER && u <= LAST_CHARACTER;
        return character && reader.addUnit(u);
    }

    public int read() {
        reader.startText();
        if (!reader.readWhole()) {
            return -1 - reader.fault;
        }
        Netlist fresh = reader.handOver(listToFillNext());
        keepList(fresh);
        matcher.forget();
        return fresh.netCount;
    }

    public int net(int k, int i) throws IndexOutOfBoundsException {
        Netlist list = listWithNet(k);
        int row = FIRST_NET_TEXT + k;
        return i == NONE ? list.texts.size(row) : characterOf(list, row, i);
    }

    public int pin(int net, int k, int what) throws IndexOutOfBoundsException {
        Netlist list = listWithNet(net);
        int pins = list.pinsOf(net);
        if (k == NONE) {
            return pins;
        }
        if (k < 0 || k >= pins || what < 0 || what > 1) {
            throw new IndexOutOfBoundsException("no such pin");
        }
        int index = list.firstPinOf(net) + k;
        return what == 0 ? list.partOfPin(index) : list.numberOfPin(index);
    }

    public int part(int k, int what) throws IndexOutOfBoundsException {
        Netlist list = listWithPart(k);
        if (what < 0 || what >= TEXTS_OF_PART * TEXT_STEP) {
            throw new IndexOutOfBoundsException("no such text of a part");
        }
        int row = k * TEXTS_OF_PART + what / TEXT_STEP;
        int i = what % TEXT_STEP;
        return i == HOW_MANY ? list.texts.size(row) : characterOf(list, row, i);
    }

    public int write(int form, int i)
            throws IndexOutOfBoundsException, IllegalStateException, IllegalArgumentException {
        if (i < 0) {
            throw new IndexOutOfBoundsException("no such character");
        }
        Netlist list = listAtHand();
        if (list == null) {
            throw new IllegalStateException("no list is at hand");
        }
        if (form < 0 || form > LAST_FORM) {
            throw new IllegalArgumentException("no such form");
        }
        return writer.characterAt(list, form, i);
    }

    public int compare(int other) throws IndexOutOfBoundsException {
        Netlist first = listAtHand();
        Netlist second = other < 0 || other >= listCount ? null : lists[other];
        if (first == null || second == null) {
            throw new IndexOutOfBoundsException("no such list");
        }
        return matcher.findRenamed(first, second);
    }

    public int renamed(int k, int side) throws IndexOutOfBoundsException {
        if (!matcher.hasPair(k) || side < 0 || side > 1) {
            throw new IndexOutOfBoundsException("no such pair, or side");
        }
        return matcher.sideOf(k, side);
    }

    public int swap(int part, int pinA, int pinB)
            throws IndexOutOfBoundsException, IllegalArgumentException {
        Netlist list = listWithPart(part);
        if (!isNumber(pinA) || !isNumber(pinB) || pinA == pinB) {
            throw new IllegalArgumentException("not two numbers of pins");
        }
        return list.swapNumbers(part, pinA, pinB) ? list.noteCount : NONE;
    }

    public int note(int k, int what) throws IndexOutOfBoundsException {
        Netlist list = listAtHand();
        if (list == null || k < 0 || k >= list.noteCount || what < 0 || what >= NUMBERS_OF_NOTE) {
            throw new IndexOutOfBoundsException("no such note");
        }
        return list.numberOfNote(k, what);
    }

    public int take(int part) throws IndexOutOfBoundsException {
        Netlist list = listWithPart(part);
        list.markTaken(part);
        return list.netsPartlyTaken();
    }

    public int unknown(int k) {
        Netlist list = listAtHand();
        if (list == null || k < 0 || k >= list.partCount - list.toldCount) {
            return NONE;
        }
        return list.toldCount + k;
    }

    public int cls(int net) throws IndexOutOfBoundsException {
        return listWithNet(net).classOf(net);
    }

    public void clear() {
        reader.forgetText();
    }

    private static boolean isNumber(int number) {
        return number >= 1 && number <= MOST_NUMBER;
    }

    private Netlist listAtHand() {
        return listCount < 1 || listCount > MOST_LISTS ? null : lists[listCount - 1];
    }

    private Netlist listWithNet(int net) {
        Netlist list = listAtHand();
        if (list == null || net < 0 || net >= list.netCount) {
            throw new IndexOutOfBoundsException("no such net");
        }
        return list;
    }

    private Netlist listWithPart(int part) {
        Netlist list = listAtHand();
        if (list == null || part < 0 || part >= list.partCount) {
            throw new IndexOutOfBoundsException("no such part");
        }
        return list;
    }

    private static int characterOf(Netlist list, int row, int i) {
        int character = list.texts.at(row, i);
        if (character == NONE) {
            throw new IndexOutOfBoundsException("no such character");
        }
        return character;
    }

    /** The list that goes is filled anew by the next read(), so that an object makes five at most. */
    private Netlist listToFillNext() {
        Netlist oldest = lists[0];
        return listCount < MOST_LISTS || oldest == null ? new Netlist() : oldest;
    }

    private void keepList(Netlist fresh) {
        if (listCount < MOST_LISTS) {
            listCount++;
        } else {
            for (int i = 1; i < MOST_LISTS; i++) {
                lists[i - 1] = lists[i];
            }
        }
        lists[listCount - 1] = fresh;
    }

    /** Rows of texts of at most 24 characters, made once and used again. */
    private static final class Texts {
        private final char[] characters;
        private final int[] sizes;

        Texts(int rows) {
            int count = rows < 0 ? 0 : rows;
            characters = new char[count * MOST_CHARACTERS];
            sizes = new int[count];
        }

        private boolean has(int row) {
            return row >= 0 && row < sizes.length;
        }

        int size(int row) {
            return row < 0 || row >= sizes.length ? 0 : sizes[row];
        }

        int at(int row, int i) {
            if (!has(row) || i < 0 || i >= sizes[row]) {
                return NONE;
            }
            return characters[row * MOST_CHARACTERS + i];
        }

        void empty(int row) {
            if (has(row)) {
                sizes[row] = 0;
            }
        }

        void add(int row, int character) {
            if (row >= 0 && row < sizes.length && sizes[row] < MOST_CHARACTERS) {
                characters[row * MOST_CHARACTERS + sizes[row]] = (char) character;
                sizes[row]++;
            }
        }

        void copy(int row, Texts from, int fromRow) {
            if (has(row) && from.has(fromRow)) {
                int size = from.sizes[fromRow];
                System.arraycopy(from.characters, fromRow * MOST_CHARACTERS,
                        characters, row * MOST_CHARACTERS, size);
                sizes[row] = size;
            }
        }

        /** Below 0, 0 or above 0, as the text is less than the other one, the same, or greater. */
        int order(int row, Texts other, int otherRow) {
            int size = size(row);
            int otherSize = other.size(otherRow);
            int start = row * MOST_CHARACTERS;
            int otherStart = otherRow * MOST_CHARACTERS;
            for (int i = 0; i < size && i < otherSize; i++) {
                int difference = characters[start + i] - other.characters[otherStart + i];
                if (difference != 0) {
                    return difference;
                }
            }
            return size - otherSize;
        }
    }

    /** One list: its parts (the unknown ones last), its nets, and the pins net by net. */
    private static final class Netlist {
        final Texts texts = new Texts(TEXTS_OF_LIST);
        int partCount;
        int toldCount;
        int netCount;
        int pinCount;
        int noteCount;
        private final boolean[] taken = new boolean[MOST_PARTS];
        private final int[] classes = new int[MOST_NETS];
        private final int[] firstPins = new int[MOST_NETS];
        private final int[] pinCounts = new int[MOST_NETS];
        private final int[] pinNets = new int[MOST_PINS];
        private final int[] pinParts = new int[MOST_PINS];
        private final int[] pinNumbers = new int[MOST_PINS];
        private final int[] notes = new int[MOST_NOTES * NUMBERS_OF_NOTE];

        void forgetAll() {
            partCount = 0;
            toldCount = 0;
            netCount = 0;
            pinCount = 0;
            noteCount = 0;
        }

        private static boolean within(int index, int count, int[] row) {
            return index >= 0 && index < count && index < row.length;
        }

        int pinsOf(int net) {
            return within(net, netCount, pinCounts) ? pinCounts[net] : 0;
        }

        int firstPinOf(int net) {
            return within(net, netCount, firstPins) ? firstPins[net] : 0;
        }

        int classOf(int net) {
            return within(net, netCount, classes) ? classes[net] : NONE;
        }

        int partOfPin(int pin) {
            return within(pin, pinCount, pinParts) ? pinParts[pin] : NONE;
        }

        int numberOfPin(int pin) {
            return within(pin, pinCount, pinNumbers) ? pinNumbers[pin] : NONE;
        }

        int netOfPin(int pin) {
            return within(pin, pinCount, pinNets) ? pinNets[pin] : NONE;
        }

        int numberOfNote(int k, int what) {
            int index = k * NUMBERS_OF_NOTE + what;
            return within(index, noteCount * NUMBERS_OF_NOTE, notes) ? notes[index] : NONE;
        }

        int findPart(Texts from, int row) {
            for (int k = 0; k < partCount; k++) {
                if (texts.order(k * TEXTS_OF_PART, from, row) == 0) {
                    return k;
                }
            }
            return NONE;
        }

        int findNet(Texts from, int row) {
            for (int k = 0; k < netCount; k++) {
                if (texts.order(FIRST_NET_TEXT + k, from, row) == 0) {
                    return k;
                }
            }
            return NONE;
        }

        int findPin(int part, int number) {
            for (int k = 0; k < pinCount; k++) {
                if (partOfPin(k) == part && numberOfPin(k) == number) {
                    return k;
                }
            }
            return NONE;
        }

        void addPart(Texts from, int row) {
            if (partCount >= MOST_PARTS) {
                return;
            }
            int name = partCount * TEXTS_OF_PART;
            texts.copy(name, from, row);
            texts.empty(name + VALUE);
            texts.empty(name + FOOTPRINT);
            taken[partCount] = false;
            partCount++;
        }

        void addNet(Texts from, int row) {
            if (netCount >= MOST_NETS) {
                return;
            }
            texts.copy(FIRST_NET_TEXT + netCount, from, row);
            classes[netCount] = 0;
            firstPins[netCount] = pinCount;
            pinCounts[netCount] = 0;
            netCount++;
        }

        void setClassOfLastNet(int digit) {
            if (within(netCount - 1, netCount, classes)) {
                classes[netCount - 1] = digit;
            }
        }

        void addPinToLastNet(int part, int number) {
            int net = netCount - 1;
            if (pinCount >= MOST_PINS || !within(net, netCount, pinCounts)) {
                return;
            }
            pinNets[pinCount] = net;
            pinParts[pinCount] = part;
            pinNumbers[pinCount] = number;
            pinCounts[net]++;
            pinCount++;
        }

        /** False, and nothing changes, when neither pin stands in a net or there is no room for a note. */
        boolean swapNumbers(int part, int numberA, int numberB) {
            int pinA = findPin(part, numberA);
            int pinB = findPin(part, numberB);
            if (pinA == NONE && pinB == NONE || noteCount >= MOST_NOTES) {
                return false;
            }
            setNumber(pinA, numberB);
            setNumber(pinB, numberA);
            int index = noteCount * NUMBERS_OF_NOTE;
            notes[index] = part;
            notes[index + 1] = numberA;
            notes[index + 2] = numberB;
            noteCount++;
            return true;
        }

        private void setNumber(int pin, int number) {
            if (within(pin, pinCount, pinNumbers)) {
                pinNumbers[pin] = number;
            }
        }

        void markTaken(int part) {
            if (part >= 0 && part < MOST_PARTS) {
                taken[part] = true;
            }
        }

        private boolean isTaken(int part) {
            return part >= 0 && part < MOST_PARTS && taken[part];
        }

        int netsPartlyTaken() {
            int count = 0;
            for (int net = 0; net < netCount; net++) {
                int pins = pinsOf(net);
                int takenPins = 0;
                for (int k = 0; k < pins; k++) {
                    takenPins += isTaken(partOfPin(firstPinOf(net) + k)) ? 1 : 0;
                }
                count += takenPins > 0 && takenPins < pins ? 1 : 0;
            }
            return count;
        }
    }

    /**
     * Holds the text and reads it to a list. The methods that read go on from the place 'at' and
     * answer false when they have told a fault.
     */
    private abstract static class Reader {
        private final char[] units = new char[MOST_UNITS];
        private int unitCount;
        private int fault;
        private int partOfPin;
        private int number;
        int at;
        int wordAt;
        final Texts word = new Texts(1);
        Netlist list = new Netlist();

        abstract boolean readWhole();

        boolean addUnit(int u) {
            if (unitCount >= MOST_UNITS) {
                return false;
            }
            units[unitCount] = (char) u;
            unitCount++;
            return true;
        }

        void forgetText() {
            unitCount = 0;
        }

        void startText() {
            at = 0;
            fault = NONE;
            list.forgetAll();
        }

        Netlist handOver(Netlist next) {
            Netlist ready = list;
            list = next;
            return ready;
        }

        int peek() {
            return at < 0 || at >= unitCount || at >= MOST_UNITS ? NONE : units[at];
        }

        int peekAt(int place) {
            return place < 0 || place >= unitCount || place >= MOST_UNITS ? NONE : units[place];
        }

        boolean fail(int place) {
            fault = place;
            return false;
        }

        boolean expect(int character) {
            if (peek() != character) {
                return fail(at);
            }
            at++;
            return true;
        }

        boolean expectAll(String characters) {
            for (int i = 0; i < characters.length(); i++) {
                if (!expect(characters.charAt(i))) {
                    return false;
                }
            }
            return true;
        }

        boolean expectEnd() {
            return peek() == NONE || fail(at);
        }

        static boolean isDigit(int character) {
            return character >= '0' && character <= '9';
        }

        /** The latest word names a part told. */
        boolean startPart() {
            if (word.size(0) == 0 || list.partCount >= MOST_PARTS || list.findPart(word, 0) != NONE) {
                return fail(wordAt);
            }
            list.addPart(word, 0);
            list.toldCount = list.partCount;
            return true;
        }

        /** The latest word is the value or the footprint of the part that was started latest. */
        boolean keepText(int which) {
            list.texts.copy((list.partCount - 1) * TEXTS_OF_PART + which, word, 0);
            return true;
        }

        boolean startNet() {
            if (word.size(0) == 0 || list.netCount >= MOST_NETS || list.findNet(word, 0) != NONE) {
                return fail(wordAt);
            }
            list.addNet(word, 0);
            return true;
        }

        boolean readClass() {
            int digit = peek();
            if (!isDigit(digit)) {
                return fail(at);
            }
            list.setClassOfLastNet(digit - '0');
            at++;
            return true;
        }

        /** The latest word names the part of a pin, which is unknown when it was not told. */
        boolean startPin() {
            partOfPin = list.findPart(word, 0);
            if (partOfPin != NONE) {
                return true;
            }
            if (word.size(0) == 0 || list.partCount >= MOST_PARTS) {
                return fail(wordAt);
            }
            partOfPin = list.partCount;
            list.addPart(word, 0);
            return true;
        }

        boolean endPin() {
            if (!readNumber()) {
                return false;
            }
            if (list.pinCount >= MOST_PINS || list.findPin(partOfPin, number) != NONE) {
                return fail(wordAt);
            }
            list.addPinToLastNet(partOfPin, number);
            return true;
        }

        private boolean readNumber() {
            if (peek() == '0') {
                return fail(at);
            }
            number = 0;
            for (int digits = 0; digits < 3 && isDigit(peek()); digits++) {
                number = number * 10 + peek() - '0';
                at++;
            }
            return number > 0 && !isDigit(peek()) || fail(at);
        }
    }

    /** What forms 0 and 2 have in common: tokens. */
    private abstract static class TokenReader extends Reader {
        private final boolean hashEscaped;

        TokenReader(boolean hashEscaped) {
            this.hashEscaped = hashEscaped;
        }

        boolean readToken() {
            wordAt = at;
            word.empty(0);
            if (peek() == '\\' && peekAt(at + 1) == 'e') {
                at += 2;
                return true;
            }
            for (int i = 0; i < MOST_CHARACTERS && goesOn(i == 0); i++) {
                if (!readCharacter(i == 0)) {
                    return false;
                }
            }
            return word.size(0) > 0 && !goesOn(false) || fail(at);
        }

        private boolean goesOn(boolean first) {
            int character = peek();
            boolean reference = first && hashEscaped && character == '#';
            return character > ' ' && character != '.' && !reference;
        }

        private boolean readCharacter(boolean first) {
            int character = peek();
            if (character == '\\') {
                at++;
                character = escaped(peek(), first);
                if (character == NONE) {
                    return fail(at);
                }
            }
            word.add(0, character);
            at++;
            return true;
        }

        private int escaped(int letter, boolean first) {
            switch (letter) {
                case '\\':
                    return '\\';
                case 'd':
                    return '.';
                case 's':
                    return ' ';
                case 'h':
                    return first && hashEscaped ? '#' : NONE;
                default:
                    return NONE;
            }
        }
    }

    /** Form 0. */
    private static final class PlainReader extends TokenReader {
        PlainReader() {
            super(false);
        }

        boolean readWhole() {
            for (int i = 0; i <= MOST_PARTS && peek() == 'p'; i++) {
                if (!readPartLine()) {
                    return false;
                }
            }
            for (int i = 0; i <= MOST_NETS && peek() == 'n'; i++) {
                if (!readNetLine()) {
                    return false;
                }
            }
            return expectEnd();
        }

        private boolean readPartLine() {
            return expectAll("part ") && readToken() && startPart()
                    && expect(' ') && readToken() && keepText(VALUE)
                    && expect(' ') && readToken() && keepText(FOOTPRINT)
                    && expect(LINE_FEED);
        }

        private boolean readNetLine() {
            if (!(expectAll("net ") && readToken() && startNet() && expect(' ') && readClass())) {
                return false;
            }
            for (int i = 0; i <= MOST_PINS && peek() == ' '; i++) {
                at++;
                if (!(readToken() && startPin() && expect('.') && endPin())) {
                    return false;
                }
            }
            return expect(LINE_FEED);
        }
    }

    /** Form 1. */
    private static final class ListReader extends Reader {
        boolean readWhole() {
            if (!(expectOpening() && expectAll("netlist"))) {
                return false;
            }
            for (int i = 0; i <= MOST_PARTS + MOST_NETS && opens(); i++) {
                boolean good = peek() == 'p' && list.netCount == 0 ? readPart() : readNet();
                if (!good) {
                    return false;
                }
            }
            if (!expect(')')) {
                return false;
            }
            skipBlanks();
            return expectEnd();
        }

        private boolean readPart() {
            return expectAll("part") && readQuoted() && startPart()
                    && readQuoted() && keepText(VALUE)
                    && readQuoted() && keepText(FOOTPRINT)
                    && expectClosing();
        }

        private boolean readNet() {
            if (!(expectAll("net") && readQuoted() && startNet() && expectGap() && readClass())) {
                return false;
            }
            for (int i = 0; i <= MOST_PINS && opens(); i++) {
                if (!(expectAll("pin") && readQuoted() && startPin() && expectGap() && endPin() && expectClosing())) {
                    return false;
                }
            }
            return expect(')');
        }

        /** Whether a ( comes behind the blanks; then it and the blanks behind it are passed, too. */
        private boolean opens() {
            skipBlanks();
            if (peek() != '(') {
                return false;
            }
            at++;
            skipBlanks();
            return true;
        }

        private boolean expectClosing() {
            skipBlanks();
            return expect(')');
        }

        private boolean expectOpening() {
            return opens() || fail(at);
        }

        private boolean expectGap() {
            if (!isBlank(peek())) {
                return fail(at);
            }
            skipBlanks();
            return true;
        }

        private static boolean isBlank(int character) {
            return character == ' ' || character == LINE_FEED;
        }

        private void skipBlanks() {
            for (int i = 0; i < MOST_UNITS && isBlank(peek()); i++) {
                at++;
            }
        }

        private boolean readQuoted() {
            if (!expectGap()) {
                return false;
            }
            wordAt = at;
            word.empty(0);
            if (!expect('"')) {
                return false;
            }
            for (int i = 0; i < MOST_CHARACTERS && peek() != '"'; i++) {
                if (!readCharacter()) {
                    return false;
                }
            }
            return expect('"');
        }

        private boolean readCharacter() {
            if (peek() == '\\') {
                at++;
                if (peek() != '"' && peek() != '\\') {
                    return fail(at);
                }
            }
            int character = peek();
            if (character < FIRST_CHARACTER) {
                return fail(at);
            }
            word.add(0, character);
            at++;
            return true;
        }
    }

    /** Form 2. */
    private static final class LongReader extends TokenReader {
        private final Texts longs = new Texts(MOST_LONGS);
        private int longCount;

        LongReader() {
            super(true);
        }

        boolean readWhole() {
            return expectAll("LONG\n") && readLongLines()
                    && expectAll("PARTS\n") && readPartLines()
                    && expectAll("NETS\n") && readNetLines()
                    && expectAll("END\n") && expectEnd();
        }

        private boolean readLongLines() {
            longCount = 0;
            for (int i = 0; i < MOST_LONGS && peek() == '#'; i++) {
                at++;
                if (!(expect('0' + i / 10) && expect('0' + i % 10) && expect(' ')
                        && readToken() && keepLong() && expect(LINE_FEED))) {
                    return false;
                }
            }
            return true;
        }

        private boolean keepLong() {
            if (word.size(0) <= MOST_SHORT) {
                return fail(wordAt);
            }
            longs.copy(longCount, word, 0);
            longCount++;
            return true;
        }

        private boolean readPartLines() {
            for (int i = 0; i <= MOST_PARTS && !isAhead("NETS\n"); i++) {
                if (!(readTokenOrReference() && startPart()
                        && expect(' ') && readTokenOrReference() && keepText(VALUE)
                        && expect(' ') && readTokenOrReference() && keepText(FOOTPRINT)
                        && expect(LINE_FEED))) {
                    return false;
                }
            }
            return true;
        }

        private boolean readNetLines() {
            for (int i = 0; i <= MOST_NETS && !isAhead("END\n"); i++) {
                if (!(readTokenOrReference() && startNet() && expect(' ') && readClass() && expect(LINE_FEED)
                        && readPinLines())) {
                    return false;
                }
            }
            return true;
        }

        private boolean readPinLines() {
            for (int i = 0; i <= MOST_PINS && peek() == ' '; i++) {
                at++;
                if (!(readTokenOrReference() && startPin() && expect(' ') && endPin() && expect(LINE_FEED))) {
                    return false;
                }
            }
            return true;
        }

        /** Parts and nets may be named NETS and END, so only the whole line ends what stands ahead of it. */
        private boolean isAhead(String line) {
            for (int i = 0; i < line.length(); i++) {
                if (peekAt(at + i) != line.charAt(i)) {
                    return false;
                }
            }
            return true;
        }

        private boolean readTokenOrReference() {
            return peek() == '#' ? readReference() : readToken();
        }

        private boolean readReference() {
            wordAt = at;
            int row = 0;
            for (int i = 0; i < 2; i++) {
                at++;
                if (!isDigit(peek())) {
                    return fail(at);
                }
                row = row * 10 + peek() - '0';
            }
            at++;
            if (row >= longCount) {
                return fail(wordAt);
            }
            word.copy(0, longs, row);
            return true;
        }
    }

    /** Writes a list without keeping it: the characters are counted, and the wanted one is held. */
    private static final class Writer {
        private final int[] numbers = new int[TEXTS_OF_LIST];
        private final int[] longRows = new int[MOST_LONGS];
        private int longCount;
        private boolean hashEscaped;
        private int count;
        private int wanted;
        private int found;

        int characterAt(Netlist list, int form, int i) {
            count = 0;
            wanted = i;
            found = NONE;
            hashEscaped = form == 2;
            if (form == 0) {
                putPlain(list);
            } else if (form == 1) {
                putLists(list);
            } else {
                putLong(list);
            }
            return found;
        }

        private void put(int character) {
            if (count == wanted) {
                found = character;
            }
            count++;
        }

        private void putAll(String characters) {
            for (int i = 0; i < characters.length(); i++) {
                put(characters.charAt(i));
            }
        }

        private void putNumber(int number) {
            if (number >= 100) {
                put('0' + number / 100 % 10);
            }
            if (number >= 10) {
                put('0' + number / 10 % 10);
            }
            put('0' + number % 10);
        }

        private void putToken(Texts texts, int row) {
            int size = texts.size(row);
            if (size == 0) {
                putAll("\\e");
            }
            for (int i = 0; i < size; i++) {
                int character = texts.at(row, i);
                int letter = escapeLetter(character, i == 0);
                if (letter == NONE) {
                    put(character);
                } else {
                    put('\\');
                    put(letter);
                }
            }
        }

        private int escapeLetter(int character, boolean first) {
            switch (character) {
                case '\\':
                    return '\\';
                case '.':
                    return 'd';
                case ' ':
                    return 's';
                case '#':
                    return first && hashEscaped ? 'h' : NONE;
                default:
                    return NONE;
            }
        }

        private void putPlain(Netlist list) {
            for (int part = 0; part < list.toldCount; part++) {
                putAll("part");
                for (int i = 0; i < TEXTS_OF_PART; i++) {
                    put(' ');
                    putToken(list.texts, part * TEXTS_OF_PART + i);
                }
                put(LINE_FEED);
            }
            for (int net = 0; net < list.netCount; net++) {
                putAll("net ");
                putToken(list.texts, FIRST_NET_TEXT + net);
                put(' ');
                putNumber(list.classOf(net));
                for (int k = 0; k < list.pinsOf(net); k++) {
                    int pin = list.firstPinOf(net) + k;
                    put(' ');
                    putToken(list.texts, list.partOfPin(pin) * TEXTS_OF_PART);
                    put('.');
                    putNumber(list.numberOfPin(pin));
                }
                put(LINE_FEED);
            }
        }

        private void putLists(Netlist list) {
            putAll("(netlist");
            for (int part = 0; part < list.toldCount; part++) {
                putAll("\n(part");
                for (int i = 0; i < TEXTS_OF_PART; i++) {
                    putQuoted(list.texts, part * TEXTS_OF_PART + i);
                }
                put(')');
            }
            for (int net = 0; net < list.netCount; net++) {
                putAll("\n(net");
                putQuoted(list.texts, FIRST_NET_TEXT + net);
                put(' ');
                putNumber(list.classOf(net));
                for (int k = 0; k < list.pinsOf(net); k++) {
                    int pin = list.firstPinOf(net) + k;
                    putAll(" (pin");
                    putQuoted(list.texts, list.partOfPin(pin) * TEXTS_OF_PART);
                    put(' ');
                    putNumber(list.numberOfPin(pin));
                    put(')');
                }
                put(')');
            }
            putAll(")\n");
        }

        private void putQuoted(Texts texts, int row) {
            putAll(" \"");
            for (int i = 0; i < texts.size(row); i++) {
                int character = texts.at(row, i);
                if (character == '"' || character == '\\') {
                    put('\\');
                }
                put(character);
            }
            put('"');
        }

        private void putLong(Netlist list) {
            numberLongs(list);
            putAll("LONG\n");
            for (int i = 0; i < longCount && i < MOST_LONGS; i++) {
                putReference(i);
                put(' ');
                putToken(list.texts, longRows[i]);
                put(LINE_FEED);
            }
            putAll("PARTS\n");
            for (int part = 0; part < list.toldCount; part++) {
                for (int i = 0; i < TEXTS_OF_PART; i++) {
                    putShortened(list.texts, part * TEXTS_OF_PART + i);
                    put(i < TEXTS_OF_PART - 1 ? ' ' : LINE_FEED);
                }
            }
            putAll("NETS\n");
            for (int net = 0; net < list.netCount; net++) {
                putLongNet(list, net);
            }
            putAll("END\n");
        }

        private void putLongNet(Netlist list, int net) {
            putShortened(list.texts, FIRST_NET_TEXT + net);
            put(' ');
            putNumber(list.classOf(net));
            put(LINE_FEED);
            for (int k = 0; k < list.pinsOf(net); k++) {
                int pin = list.firstPinOf(net) + k;
                put(' ');
                putShortened(list.texts, list.partOfPin(pin) * TEXTS_OF_PART);
                put(' ');
                putNumber(list.numberOfPin(pin));
                put(LINE_FEED);
            }
        }

        private void putReference(int number) {
            put('#');
            put('0' + number / 10 % 10);
            put('0' + number % 10);
        }

        private void putShortened(Texts texts, int row) {
            int number = row < 0 || row >= TEXTS_OF_LIST ? NONE : numbers[row];
            if (number == NONE) {
                putToken(texts, row);
            } else {
                putReference(number);
            }
        }

        private void numberLongs(Netlist list) {
            longCount = 0;
            for (int row = 0; row < TEXTS_OF_LIST; row++) {
                numbers[row] = NONE;
            }
            for (int row = 0; row < list.toldCount * TEXTS_OF_PART; row++) {
                numberText(list.texts, row);
            }
            for (int net = 0; net < list.netCount; net++) {
                numberText(list.texts, FIRST_NET_TEXT + net);
                for (int k = 0; k < list.pinsOf(net); k++) {
                    numberText(list.texts, list.partOfPin(list.firstPinOf(net) + k) * TEXTS_OF_PART);
                }
            }
        }

        private void numberText(Texts texts, int row) {
            if (row < 0 || row >= TEXTS_OF_LIST || texts.size(row) <= MOST_SHORT || numbers[row] != NONE) {
                return;
            }
            int number = findLong(texts, row);
            if (number == NONE && longCount < MOST_LONGS) {
                number = longCount;
                longRows[longCount] = row;
                longCount++;
            }
            numbers[row] = number;
        }

        private int findLong(Texts texts, int row) {
            for (int i = 0; i < longCount && i < MOST_LONGS; i++) {
                if (texts.order(longRows[i], texts, row) == 0) {
                    return i;
                }
            }
            return NONE;
        }
    }

    /** Matches the nets of two lists and holds the pairs of other names that it found latest. */
    private static final class Matcher {
        private final int[] common = new int[MOST_NETS * MOST_NETS];
        private final int[] mates = new int[MOST_NETS];
        private final boolean[] used = new boolean[MOST_NETS];
        private final int[] pairs = new int[MOST_NETS * 2];
        private int pairCount;

        void forget() {
            pairCount = 0;
        }

        boolean hasPair(int k) {
            return k >= 0 && k < pairCount && k < MOST_NETS;
        }

        int sideOf(int k, int side) {
            return hasPair(k) && side >= 0 && side <= 1 ? pairs[k * 2 + side] : NONE;
        }

        int findRenamed(Netlist first, Netlist second) {
            countCommon(first, second);
            matchSame(first, second);
            boolean found = true;
            for (int round = 0; round < MOST_NETS && found; round++) {
                found = matchBest(first, second);
            }
            keepRenamed(first, second);
            return pairCount;
        }

        private void countCommon(Netlist first, Netlist second) {
            for (int i = 0; i < common.length; i++) {
                common[i] = 0;
            }
            for (int net = 0; net < MOST_NETS; net++) {
                mates[net] = NONE;
                used[net] = false;
            }
            for (int pin = 0; pin < first.pinCount; pin++) {
                int part = second.findPart(first.texts, first.partOfPin(pin) * TEXTS_OF_PART);
                int twin = part == NONE ? NONE : second.findPin(part, first.numberOfPin(pin));
                if (twin != NONE) {
                    addCommon(first.netOfPin(pin), second.netOfPin(twin));
                }
            }
        }

        private static boolean isNet(int net) {
            return net >= 0 && net < MOST_NETS;
        }

        private void addCommon(int a, int b) {
            if (isNet(a) && isNet(b)) {
                common[a * MOST_NETS + b]++;
            }
        }

        /** How many pins two nets have in common; 0 when one of them has been matched. */
        private int commonOfFree(int a, int b) {
            boolean free = isNet(a) && isNet(b) && mates[a] == NONE && !used[b];
            return free ? common[a * MOST_NETS + b] : 0;
        }

        private void mate(int a, int b) {
            if (isNet(a) && isNet(b)) {
                mates[a] = b;
                used[b] = true;
            }
        }

        private void matchSame(Netlist first, Netlist second) {
            for (int a = 0; a < first.netCount; a++) {
                for (int b = 0; b < second.netCount; b++) {
                    int pins = commonOfFree(a, b);
                    if (pins > 0 && pins == first.pinsOf(a) && pins == second.pinsOf(b)) {
                        mate(a, b);
                    }
                }
            }
        }

        private boolean matchBest(Netlist first, Netlist second) {
            int most = 0;
            int bestA = NONE;
            int bestB = NONE;
            for (int a = 0; a < first.netCount; a++) {
                for (int b = 0; b < second.netCount; b++) {
                    int pins = commonOfFree(a, b);
                    boolean tie = pins > 0 && pins == most;
                    if (pins > most || tie && namedLess(first, a, bestA, second, b, bestB)) {
                        most = pins;
                        bestA = a;
                        bestB = b;
                    }
                }
            }
            mate(bestA, bestB);
            return most > 0;
        }

        private static boolean namedLess(Netlist first, int a, int bestA, Netlist second, int b, int bestB) {
            int order = first.texts.order(FIRST_NET_TEXT + a, first.texts, FIRST_NET_TEXT + bestA);
            if (order != 0) {
                return order < 0;
            }
            return second.texts.order(FIRST_NET_TEXT + b, second.texts, FIRST_NET_TEXT + bestB) < 0;
        }

        private void keepRenamed(Netlist first, Netlist second) {
            pairCount = 0;
            for (int a = 0; a < first.netCount && a < MOST_NETS; a++) {
                int b = mates[a];
                if (b != NONE
                        && first.texts.order(FIRST_NET_TEXT + a, second.texts, FIRST_NET_TEXT + b) != 0) {
                    pairs[pairCount * 2] = a;
                    pairs[pairCount * 2 + 1] = b;
                    pairCount++;
                }
            }
        }
    }
}
