/** Pages that are read from, and written in, a braced and a tagged form. */
public final class BracedPages {
    public static final int NONE = -1;
    public static final int OPEN = -2, BEHIND = -3, WORD = -4, RANGE = -5, TABLE = -6, DEEP = -7, LONG = -8, TAG = -9, SAME = -10;

    private static final int NO_FAULT = 0;
    private static final int MOST_CHARACTERS = 400;
    private static final int MOST_LETTERS = 400;
    private static final int MOST_PARAGRAPHS = 16;
    private static final int MOST_GROUPS = 12;
    private static final int MOST_DIGITS = 5;
    private static final int LARGEST_ALIGNMENT = 2;
    private static final int LARGEST_INDENT = 9;
    private static final int LARGEST_SKIP = 9;
    private static final int LARGEST_STYLE = 7;
    private static final int LARGEST_SIZE = 99;
    private static final int LARGEST_COLOUR = 7;
    private static final int FIRST_CODE = 32, FIRST_ESCAPED_CODE = 127, LAST_CODE = 255;
    private static final int BOLD = 1, ITALIC = 2, UNDERLINED = 4;
    private static final int PLAIN_SIZE = 12;
    private static final int NEW_LINE = 10;
    /** OUT may be fifty times as long as a page has letters: it starts small and grows when it must. */
    private static final int FIRST_ROOM = 64;

    private final Row in = new Row(MOST_CHARACTERS);
    private final Row written = new Row(FIRST_ROOM);
    private final Page page = new Page();
    /** A reading fills the draft first, because one that meets a fault must leave the page alone. */
    private final Page draft = new Page();
    private final Reader bracedReader = new BracedReader(in, draft);
    private final Reader taggedReader = new TaggedReader(in, draft);
    private final Writer bracedWriter = new BracedWriter(page, written);
    private final Writer taggedWriter = new TaggedWriter(page, written);
    private int met = NONE;

    public BracedPages() {
    }

    public int feed(long text) throws IllegalArgumentException, UnsupportedOperationException {
        int count = 0;
        while (count < 8 && byteOf(text, count) != 0) {
            if (!isCharacter(byteOf(text, count))) {
                throw new IllegalArgumentException("not a character of IN");
            }
            count++;
        }
        if (in.size() + count > MOST_CHARACTERS) {
            throw new UnsupportedOperationException("IN would be too long");
        }
        for (int i = 0; i < count; i++) {
            in.put(byteOf(text, i));
        }
        return count;
    }

    public void clear() {
        in.empty();
    }

    public int take() throws UnsupportedOperationException {
        if (written.size() > MOST_CHARACTERS) {
            throw new UnsupportedOperationException("OUT is too long for IN");
        }
        in.copy(written);
        return in.size();
    }

    public int readBraced() {
        bracedReader.read();
        return finishReading(bracedReader);
    }

    public int readTagged() {
        taggedReader.read();
        return finishReading(taggedReader);
    }

    public int at() {
        return met;
    }

    public int writeBraced() {
        return bracedWriter.write();
    }

    public int writeTagged() {
        return taggedWriter.write();
    }

    public int out(int i) {
        return written.get(i);
    }

    public int begin(int alignment, int indent) throws IllegalArgumentException, UnsupportedOperationException {
        if (!isWithin(alignment, 0, LARGEST_ALIGNMENT) || !isWithin(indent, 0, LARGEST_INDENT)) {
            throw new IllegalArgumentException("no such alignment or indent");
        }
        if (page.isFull()) {
            throw new UnsupportedOperationException("the page has all its paragraphs");
        }
        page.gather(alignment, indent);
        return page.size();
    }

    public int add(int code, int style, int size, int colour) throws IllegalStateException, IllegalArgumentException, UnsupportedOperationException {
        if (page.size() == 0) {
            throw new IllegalStateException("there is no paragraph");
        }
        if (!isWithin(code, FIRST_CODE, LAST_CODE) || !isLook(style, size, colour)) {
            throw new IllegalArgumentException("no such letter or look");
        }
        if (page.letters() >= MOST_LETTERS) {
            throw new UnsupportedOperationException("the page has all its letters");
        }
        page.putInLast(code, lookOf(style, size, colour));
        return page.runsOf(page.size() - 1);
    }

    public void wipe() {
        page.empty();
    }

    public int paragraphs() {
        return page.size();
    }

    public int paragraph(int p, int what) throws java.util.NoSuchElementException, IllegalArgumentException {
        if (!page.has(p)) {
            throw new java.util.NoSuchElementException("no such paragraph");
        }
        switch (what) {
            case 0: return page.alignmentOf(p);
            case 1: return page.indentOf(p);
            case 2: return page.runsOf(p);
            case 3: return page.endOf(p) - page.startOf(p);
            default: throw new IllegalArgumentException("a paragraph has no such number");
        }
    }

    public int run(int p, int r, int what) throws java.util.NoSuchElementException, IllegalArgumentException {
        int first = page.firstOfRun(p, r);
        if (first == NONE) {
            throw new java.util.NoSuchElementException("no such run");
        }
        switch (what) {
            case 0: return styleOf(page.lookAt(first));
            case 1: return sizeOf(page.lookAt(first));
            case 2: return colourOf(page.lookAt(first));
            case 3: return page.runLength(p, first);
            default: throw new IllegalArgumentException("a run has no such number");
        }
    }

    public int letter(int p, int i) throws java.util.NoSuchElementException {
        if (!page.has(p) || !isWithin(i, 0, page.endOf(p) - page.startOf(p) - 1)) {
            throw new java.util.NoSuchElementException("no such letter");
        }
        return page.codeAt(page.startOf(p) + i);
    }

    private int finishReading(Reader reader) {
        met = reader.met();
        if (reader.fault() != NO_FAULT) {
            return reader.fault();
        }
        page.copy(draft);
        return page.size();
    }

    private static int byteOf(long text, int i) {
        return (int) (text >>> (8 * i)) & 255;
    }

    private static boolean isWithin(int n, int least, int most) {
        return n >= least && n <= most;
    }

    private static boolean isCharacter(int code) {
        return isWithin(code, 32, 126) || code == NEW_LINE;
    }

    private static boolean isSmallLetter(int code) {
        return code >= 'a' && code <= 'z';
    }

    private static boolean isDigit(int code) {
        return code >= '0' && code <= '9';
    }

    private static boolean isLook(int style, int size, int colour) {
        return isWithin(style, 0, LARGEST_STYLE) && isWithin(size, 1, LARGEST_SIZE) && isWithin(colour, 0, LARGEST_COLOUR);
    }

    /** One number for a whole look, so that two looks are the same just when their numbers are. */
    private static int lookOf(int style, int size, int colour) {
        return style | colour << 3 | size << 6;
    }

    private static int styleOf(int look) {
        return look & 7;
    }

    private static int colourOf(int look) {
        return look >> 3 & 7;
    }

    private static int sizeOf(int look) {
        return look >> 6;
    }

    private static String colourName(int colour) {
        switch (colour) {
            case 1: return "red";
            case 2: return "green";
            case 3: return "blue";
            case 4: return "cyan";
            case 5: return "magenta";
            case 6: return "yellow";
            case 7: return "white";
            default: return "black";
        }
    }

    /** A row of numbers that grows at its end and answers NONE for what it does not have. */
    private static final class Row {
        private int[] items;
        private int size;

        Row(int room) {
            items = new int[room];
        }

        int size() {
            return size;
        }

        int get(int i) {
            return i >= 0 && i < size ? items[i] : NONE;
        }

        void empty() {
            size = 0;
        }

        void put(int item) {
            if (size == items.length) {
                items = java.util.Arrays.copyOf(items, 2 * size + 1);
            }
            items[size] = item;
            size++;
        }

        void putText(String text) {
            for (int i = 0; i < text.length(); i++) {
                put(text.charAt(i));
            }
        }

        /** For numbers of up to three digits: none that is written has more. */
        void putNumber(int number) {
            if (number >= 100) {
                put('0' + number / 100 % 10);
            }
            if (number >= 10) {
                put('0' + number / 10 % 10);
            }
            put('0' + number % 10);
        }

        void copy(Row other) {
            size = 0;
            for (int i = 0; i < other.size; i++) {
                put(other.items[i]);
            }
        }

        boolean spells(int from, int to, String text) {
            if (from < 0 || to > size || to - from != text.length()) {
                return false;
            }
            for (int i = 0; i < text.length(); i++) {
                if (items[from + i] != text.charAt(i)) {
                    return false;
                }
            }
            return true;
        }
    }

    /** Letters with looks, and where the paragraphs end among them; runs are not kept, since the looks tell them. */
    private static final class Page {
        private final int[] alignments = new int[MOST_PARAGRAPHS];
        private final int[] indents = new int[MOST_PARAGRAPHS];
        private final int[] ends = new int[MOST_PARAGRAPHS];
        private final Row codes = new Row(MOST_LETTERS);
        private final Row looks = new Row(MOST_LETTERS);
        private int size;

        int size() {
            return size;
        }

        int letters() {
            return codes.size();
        }

        boolean isFull() {
            return size >= MOST_PARAGRAPHS;
        }

        boolean has(int p) {
            return p >= 0 && p < size;
        }

        int alignmentOf(int p) {
            return has(p) ? alignments[p] : 0;
        }

        int indentOf(int p) {
            return has(p) ? indents[p] : 0;
        }

        int startOf(int p) {
            return has(p - 1) ? ends[p - 1] : 0;
        }

        int endOf(int p) {
            return has(p) ? ends[p] : 0;
        }

        int codeAt(int i) {
            return codes.get(i);
        }

        int lookAt(int i) {
            return looks.get(i);
        }

        void empty() {
            size = 0;
            codes.empty();
            looks.empty();
        }

        void copy(Page other) {
            size = other.size;
            for (int p = 0; p < MOST_PARAGRAPHS; p++) {
                alignments[p] = other.alignments[p];
                indents[p] = other.indents[p];
                ends[p] = other.ends[p];
            }
            codes.copy(other.codes);
            looks.copy(other.looks);
        }

        /** The letter stays loose until a paragraph gathers it. */
        void put(int code, int look) {
            codes.put(code);
            looks.put(look);
        }

        void putInLast(int code, int look) {
            codes.put(code);
            looks.put(look);
            if (has(size - 1)) {
                ends[size - 1] = codes.size();
            }
        }

        boolean hasLooseLetters() {
            return codes.size() > startOf(size);
        }

        /** A new last paragraph, of all loose letters. */
        void gather(int alignment, int indent) {
            if (isFull()) {
                return;
            }
            alignments[size] = alignment;
            indents[size] = indent;
            ends[size] = codes.size();
            size++;
        }

        boolean startsRun(int p, int i) {
            return i == startOf(p) || looks.get(i) != looks.get(i - 1);
        }

        boolean endsRun(int p, int i) {
            return i == endOf(p) - 1 || looks.get(i) != looks.get(i + 1);
        }

        int runsOf(int p) {
            int runs = 0;
            for (int i = startOf(p); i < endOf(p); i++) {
                if (startsRun(p, i)) {
                    runs++;
                }
            }
            return runs;
        }

        int firstOfRun(int p, int r) {
            int run = -1;
            for (int i = startOf(p); i < endOf(p); i++) {
                if (startsRun(p, i)) {
                    run++;
                    if (run == r) {
                        return i;
                    }
                }
            }
            return NONE;
        }

        int runLength(int p, int first) {
            int length = 1;
            while (first + length < endOf(p) && looks.get(first + length) == looks.get(first)) {
                length++;
            }
            return length;
        }

        /** NONE when the last paragraph has no letters yet. */
        int latestLook() {
            return endOf(size - 1) > startOf(size - 1) ? looks.get(endOf(size - 1) - 1) : NONE;
        }
    }

    /** What both readings share: going through IN thing by thing up to the first fault. */
    private abstract static class Reader {
        final Row text;
        final Page page;
        /** Where the next thing begins, and where the one that is being read does. */
        int next, thing;
        private int fault;
        private int met;

        Reader(Row text, Page page) {
            this.text = text;
            this.page = page;
        }

        abstract void start();

        abstract void readThing();

        abstract boolean isOver();

        abstract void finish();

        int fault() {
            return fault;
        }

        int met() {
            return met;
        }

        void read() {
            page.empty();
            next = 0;
            fault = NO_FAULT;
            met = NONE;
            start();
            // Each thing is at least one character long, so no more things than characters can be met.
            for (int things = 0; things < text.size(); things++) {
                if (fault != NO_FAULT || next >= text.size() || isOver()) {
                    break;
                }
                thing = next;
                readThing();
            }
            if (fault == NO_FAULT) {
                finish();
            }
        }

        void fail(int kind) {
            fault = kind;
            met = thing;
        }

        void failAt(int kind, int where) {
            fault = kind;
            met = where;
        }
    }

    /** What a group of the braced form gives back at its end. */
    private static final class State {
        private int style, size, colour;
        private int alignment, indent;
        private int skip;

        void reset() {
            makePlain();
            alignment = 0;
            indent = 0;
            skip = 1;
        }

        void makePlain() {
            style = 0;
            size = PLAIN_SIZE;
            colour = 0;
        }

        void copy(State other) {
            style = other.style;
            size = other.size;
            colour = other.colour;
            alignment = other.alignment;
            indent = other.indent;
            skip = other.skip;
        }

        int look() {
            return lookOf(style, size, colour);
        }
    }

    /** The colours of the braced form; a new table may overwrite the old one at once, since a fault in it ends the reading. */
    private static final class ColourTable {
        private static final int MOST_ENTRIES = 8;
        private final int[] colours = new int[MOST_ENTRIES];
        private final Row name = new Row(16);
        private int size;

        void reset() {
            colours[0] = 0;
            size = 1;
        }

        boolean has(int entry) {
            return entry >= 0 && entry < size;
        }

        int colourOfEntry(int entry) {
            return has(entry) ? colours[entry] : 0;
        }

        void start() {
            size = 0;
            name.empty();
        }

        void spell(int code) {
            name.put(code);
        }

        /** Answers whether the name that was spelled makes an entry. */
        boolean enter() {
            int colour = size == 0 ? 0 : spelledColour();
            if (colour == NONE || size >= MOST_ENTRIES) {
                return false;
            }
            colours[size] = colour;
            size++;
            name.empty();
            return true;
        }

        /** Answers whether the table may end here: not amid a name. */
        boolean end() {
            if (size == 0) {
                reset();
            }
            return name.size() == 0;
        }

        private int spelledColour() {
            if (name.size() == 0) {
                return 0;
            }
            for (int colour = 0; colour <= LARGEST_COLOUR; colour++) {
                if (name.spells(0, name.size(), colourName(colour))) {
                    return colour;
                }
            }
            return NONE;
        }
    }

    private static final class BracedReader extends Reader {
        private static final int OTHER_WORD = 0, B = 1, I = 2, UL = 3, FS = 4, CF = 5, PLAIN = 6, QL = 7, QC = 8, QR = 9;
        private static final int LI = 10, PARD = 11, PAR = 12, UC = 13, U = 14, COLORTBL = 15;
        private static final int HARD_BLANK = 160;

        private final State state = new State();
        private final State[] noted = new State[MOST_GROUPS];
        private final ColourTable table = new ColourTable();
        private int openGroups;
        private boolean ended;
        /** Whether nothing but characters 10 has stood since a group began. */
        private boolean rightBehindBrace;
        private int toLeaveOut;
        private boolean inTable;
        /** The latest word, with its number's value and digits: no digits, no number. */
        private int word, number, digits;

        BracedReader(Row text, Page page) {
            super(text, page);
            for (int i = 0; i < MOST_GROUPS; i++) {
                noted[i] = new State();
            }
        }

        @Override
        void start() {
            state.reset();
            table.reset();
            openGroups = 0;
            ended = false;
            rightBehindBrace = false;
            toLeaveOut = 0;
            inTable = false;
            if (text.get(0) != '{') {
                failAt(OPEN, 0);
            }
        }

        @Override
        boolean isOver() {
            return ended;
        }

        @Override
        void readThing() {
            int c = text.get(next);
            if (c == NEW_LINE) {
                next++;
                return;
            }
            if (inTable) {
                readTableCharacter(c);
                return;
            }
            boolean first = rightBehindBrace;
            rightBehindBrace = c == '{';
            if (c == '{') {
                openGroup();
            } else if (c == '}') {
                closeGroup();
            } else if (c == '\\') {
                readBackslash(first);
            } else {
                readLetter(c, 1);
            }
        }

        @Override
        void finish() {
            if (!ended) {
                failAt(OPEN, text.size());
                return;
            }
            for (int i = next; i < text.size(); i++) {
                if (text.get(i) != NEW_LINE) {
                    failAt(BEHIND, i);
                    return;
                }
            }
            if (page.hasLooseLetters()) {
                thing = text.size();
                endParagraph(0, 0);
            }
        }

        private void openGroup() {
            toLeaveOut = 0;
            if (openGroups >= MOST_GROUPS) {
                fail(DEEP);
                return;
            }
            noted[openGroups].copy(state);
            openGroups++;
            next++;
        }

        private void closeGroup() {
            toLeaveOut = 0;
            next++;
            if (openGroups > 0) {
                openGroups--;
                state.copy(noted[openGroups]);
            }
            ended = openGroups == 0;
        }

        private void readBackslash(boolean first) {
            int c = text.get(next + 1);
            if (isSmallLetter(c)) {
                readWord();
                obeyWord(first);
            } else if (c == '\'' && hexCodeAt(next + 2) != NONE) {
                readLetter(hexCodeAt(next + 2), 4);
            } else if (c == '{' || c == '}' || c == '\\') {
                readLetter(c, 2);
            } else if (c == '~') {
                readLetter(HARD_BLANK, 2);
            } else if (c == '*') {
                readStar(first);
            } else {
                fail(WORD);
            }
        }

        /** Counts a word, an escape, a star or a letter: answers whether it is to be left out. */
        private boolean leavesOut() {
            if (toLeaveOut == 0) {
                return false;
            }
            toLeaveOut--;
            return true;
        }

        private void readLetter(int code, int length) {
            next += length;
            if (leavesOut()) {
                return;
            }
            if (code < FIRST_CODE) {
                fail(RANGE);
            } else {
                page.put(code, state.look());
            }
        }

        /** NONE when no two hexadecimal digits stand there. */
        private int hexCodeAt(int i) {
            int high = hexValue(text.get(i));
            int low = hexValue(text.get(i + 1));
            return high == NONE || low == NONE ? NONE : 16 * high + low;
        }

        private static int hexValue(int c) {
            if (isDigit(c)) {
                return c - '0';
            }
            return isWithin(c, 'a', 'f') ? c - 'a' + 10 : NONE;
        }

        private void readStar(boolean first) {
            next += 2;
            if (!leavesOut() && first) {
                passToGroupEnd();
            }
        }

        /** Stops at the } itself: it ends the group like any other. */
        private void passToGroupEnd() {
            int inner = 0;
            int i = next;
            while (i < text.size()) {
                int c = text.get(i);
                if (c == '}' && inner == 0) {
                    break;
                }
                if (c == '{') {
                    inner++;
                } else if (c == '}') {
                    inner--;
                }
                i += c == '\\' ? 2 : 1;
            }
            next = i;
        }

        private void readWord() {
            int from = next + 1;
            int to = from;
            while (to < text.size() && isSmallLetter(text.get(to))) {
                to++;
            }
            word = wordOf(from, to);
            next = to;
            readNumber();
            if (text.get(next) == ' ') {
                next++;
            }
        }

        /** A - without digits behind it is no number: it stays where it is, to be a letter. */
        private void readNumber() {
            boolean negative = text.get(next) == '-';
            int i = negative ? next + 1 : next;
            number = 0;
            digits = 0;
            while (i < text.size() && isDigit(text.get(i))) {
                digits++;
                if (digits <= MOST_DIGITS) {
                    number = 10 * number + text.get(i) - '0';
                }
                i++;
            }
            if (digits > 0) {
                next = i;
            }
            if (negative) {
                number = -number;
            }
        }

        private int wordOf(int from, int to) {
            for (int candidate = B; candidate <= COLORTBL; candidate++) {
                if (text.spells(from, to, spelling(candidate))) {
                    return candidate;
                }
            }
            return OTHER_WORD;
        }

        private static String spelling(int known) {
            switch (known) {
                case B: return "b";
                case I: return "i";
                case UL: return "ul";
                case FS: return "fs";
                case CF: return "cf";
                case PLAIN: return "plain";
                case QL: return "ql";
                case QC: return "qc";
                case QR: return "qr";
                case LI: return "li";
                case PARD: return "pard";
                case PAR: return "par";
                case UC: return "uc";
                case U: return "u";
                case COLORTBL: return "colortbl";
                default: return "";
            }
        }

        private boolean numberFits() {
            if (word == OTHER_WORD || word == COLORTBL) {
                return true;
            }
            if (digits > MOST_DIGITS) {
                return false;
            }
            if (digits == 0) {
                return word != U;
            }
            switch (word) {
                case FS: return isWithin(number, 1, LARGEST_SIZE);
                case CF: return table.has(number);
                case LI: return isWithin(number, 0, LARGEST_INDENT);
                case UC: return isWithin(number, 0, LARGEST_SKIP);
                case U: return isWithin(number, FIRST_CODE, LAST_CODE);
                default: return true;
            }
        }

        private int numberOr(int missing) {
            return digits == 0 ? missing : number;
        }

        private void obeyWord(boolean first) {
            if (leavesOut()) {
                return;
            }
            if (!numberFits()) {
                fail(RANGE);
                return;
            }
            switch (word) {
                case B: setStyle(BOLD); break;
                case I: setStyle(ITALIC); break;
                case UL: setStyle(UNDERLINED); break;
                case FS: state.size = numberOr(PLAIN_SIZE); break;
                case CF: state.colour = table.colourOfEntry(numberOr(0)); break;
                case PLAIN: state.makePlain(); break;
                case QL: state.alignment = 0; break;
                case QC: state.alignment = 1; break;
                case QR: state.alignment = 2; break;
                case LI: state.indent = numberOr(0); break;
                case PARD: state.alignment = 0; state.indent = 0; break;
                case PAR: endParagraph(state.alignment, state.indent); break;
                case UC: state.skip = numberOr(1); break;
                case U: page.put(number, state.look()); toLeaveOut = state.skip; break;
                case COLORTBL: startTable(first); break;
                default: break;
            }
        }

        private void setStyle(int bit) {
            if (numberOr(1) == 0) {
                state.style &= ~bit;
            } else {
                state.style |= bit;
            }
        }

        private void endParagraph(int alignment, int indent) {
            if (page.isFull()) {
                fail(LONG);
            } else {
                page.gather(alignment, indent);
            }
        }

        private void startTable(boolean first) {
            if (first) {
                inTable = true;
                table.start();
            }
        }

        private void readTableCharacter(int c) {
            if (isSmallLetter(c)) {
                table.spell(c);
                next++;
            } else if (c == ';' && table.enter()) {
                next++;
            } else if (c == '}' && table.end()) {
                inTable = false;
                closeGroup();
            } else {
                fail(TABLE);
            }
        }
    }

    private static final class TaggedReader extends Reader {
        /** The five tags of a run by their places in it. */
        private static final int NO_TAG = -1, S = 3, C = 4;

        private boolean inParagraph;
        /** Bit n is set while tag n of the run stands open; a run of plain letters has none. */
        private int openTags;
        /** Of a run with tags: where it begins, whether it has a letter, and whether one of its tags has ended. */
        private int runStart;
        private boolean hasLetter, isEnding;
        private int style, size, colour;
        /** Of the latest number: its value, or NONE when it is not written as it must be; and where it ends. */
        private int number, numberEnd;

        TaggedReader(Row text, Page page) {
            super(text, page);
        }

        @Override
        void start() {
            inParagraph = false;
            endRun();
        }

        @Override
        boolean isOver() {
            return false;
        }

        @Override
        void readThing() {
            int c = text.get(next);
            if (c == '<') {
                readTag();
            } else if (c == '&') {
                readNamedLetter();
            } else if (c == '>' || c == NEW_LINE) {
                fail(TAG);
            } else {
                readLetter(c, next + 1);
            }
        }

        @Override
        void finish() {
            if (inParagraph) {
                failAt(TAG, text.size());
            }
        }

        private void endRun() {
            openTags = 0;
            hasLetter = false;
            isEnding = false;
            style = 0;
            size = PLAIN_SIZE;
            colour = 0;
        }

        private void readTag() {
            int c = text.get(next + 1);
            if (c == 'p') {
                readParagraphTag();
            } else if (c == '/') {
                readEndTag();
            } else {
                readRunTag(tagOf(c));
            }
        }

        private static int tagOf(int c) {
            switch (c) {
                case 'b': return 0;
                case 'i': return 1;
                case 'u': return 2;
                case 's': return S;
                case 'c': return C;
                default: return NO_TAG;
            }
        }

        private void readParagraphTag() {
            int i = next + 2;
            int alignment = 0;
            int indent = 0;
            if (text.get(i) == ' ') {
                i++;
                alignment = alignmentAt(i);
                i += alignment == 0 ? 0 : 1;
                indent = indentAt(i);
                i += indent == 0 ? 0 : 1;
                if (alignment == 0 && indent == 0) {
                    fail(TAG);
                    return;
                }
            }
            if (text.get(i) != '>' || inParagraph) {
                fail(TAG);
            } else if (page.isFull()) {
                fail(LONG);
            } else {
                page.gather(alignment, indent);
                inParagraph = true;
                next = i + 1;
            }
        }

        private int alignmentAt(int i) {
            if (text.get(i) == 'C') {
                return 1;
            }
            return text.get(i) == 'R' ? 2 : 0;
        }

        private int indentAt(int i) {
            return isWithin(text.get(i), '1', '9') ? text.get(i) - '0' : 0;
        }

        private void readEndTag() {
            int c = text.get(next + 2);
            int tag = tagOf(c);
            if (text.get(next + 3) != '>' || (c != 'p' && tag == NO_TAG)) {
                fail(TAG);
            } else if (openTags != 0 && !hasLetter) {
                fail(SAME);
            } else if (c == 'p') {
                endParagraph();
            } else {
                endRunTag(tag);
            }
        }

        private void endParagraph() {
            if (!inParagraph || openTags != 0) {
                fail(TAG);
                return;
            }
            inParagraph = false;
            next += 4;
        }

        private void endRunTag(int tag) {
            boolean isInnermost = openTags >> tag == 1;
            if (!isInnermost) {
                fail(TAG);
                return;
            }
            openTags -= 1 << tag;
            isEnding = true;
            if (openTags == 0) {
                endRun();
            }
            next += 4;
        }

        private void readRunTag(int tag) {
            int end = runTagEnd(tag);
            boolean mayStand = inParagraph && !hasLetter && tag != NO_TAG && openTags >> tag == 0;
            if (!mayStand || text.get(end) != '>') {
                fail(TAG);
                return;
            }
            if (!setLook(tag)) {
                fail(RANGE);
                return;
            }
            if (openTags == 0) {
                runStart = thing;
            }
            openTags += 1 << tag;
            next = end + 1;
        }

        /** Where the tag's > must stand; NONE when what stands before that is wrong. */
        private int runTagEnd(int tag) {
            if (tag != S && tag != C) {
                return next + 2;
            }
            return text.get(next + 2) == ' ' && readNumber(next + 3) ? numberEnd : NONE;
        }

        /** Answers whether the tag's number is one that is written. */
        private boolean setLook(int tag) {
            if (tag == S) {
                size = number;
                return isWithin(number, 1, LARGEST_SIZE) && number != PLAIN_SIZE;
            }
            if (tag == C) {
                colour = number;
                return isWithin(number, 1, LARGEST_COLOUR);
            }
            style |= 1 << tag;
            return true;
        }

        /** Answers whether one to five digits stand there. */
        private boolean readNumber(int from) {
            int value = 0;
            int i = from;
            while (i - from <= MOST_DIGITS && isDigit(text.get(i))) {
                value = 10 * value + text.get(i) - '0';
                i++;
            }
            number = text.get(from) == '0' ? NONE : value;
            numberEnd = i;
            return isWithin(i - from, 1, MOST_DIGITS);
        }

        private void readNamedLetter() {
            if (text.spells(next, next + 4, "&lt;")) {
                readLetter('<', next + 4);
            } else if (text.spells(next, next + 4, "&gt;")) {
                readLetter('>', next + 4);
            } else if (text.spells(next, next + 5, "&amp;")) {
                readLetter('&', next + 5);
            } else if (!readNumber(next + 1) || text.get(numberEnd) != ';' || !letterMayStand()) {
                fail(TAG);
            } else if (!isWithin(number, FIRST_ESCAPED_CODE, LAST_CODE)) {
                fail(RANGE);
            } else {
                readLetter(number, numberEnd + 1);
            }
        }

        private boolean letterMayStand() {
            return inParagraph && !isEnding;
        }

        private void readLetter(int code, int end) {
            if (!letterMayStand()) {
                fail(TAG);
                return;
            }
            int look = lookOf(style, size, colour);
            if (openTags != 0) {
                if (!hasLetter && look == page.latestLook()) {
                    failAt(SAME, runStart);
                    return;
                }
                hasLetter = true;
            }
            page.putInLast(code, look);
            next = end;
        }
    }

    /** What both writings share: the way through the page. */
    private abstract static class Writer {
        final Page page;
        final Row target;

        Writer(Page page, Row target) {
            this.page = page;
            this.target = target;
        }

        abstract void startPage();

        abstract void startParagraph(int alignment, int indent);

        abstract void startRun(int look);

        abstract void writeLetter(int code);

        abstract void endRun(int look);

        abstract void endParagraph();

        abstract void endPage();

        int write() {
            target.empty();
            startPage();
            for (int p = 0; p < page.size(); p++) {
                writeParagraph(p);
            }
            endPage();
            return target.size();
        }

        private void writeParagraph(int p) {
            startParagraph(page.alignmentOf(p), page.indentOf(p));
            for (int i = page.startOf(p); i < page.endOf(p); i++) {
                if (page.startsRun(p, i)) {
                    startRun(page.lookAt(i));
                }
                writeLetter(page.codeAt(i));
                if (page.endsRun(p, i)) {
                    endRun(page.lookAt(i));
                }
            }
            endParagraph();
        }
    }

    private static final class BracedWriter extends Writer {
        /** The table entry of each colour of the page; 0 for those that it does not have. */
        private final int[] entries = new int[LARGEST_COLOUR + 1];

        BracedWriter(Page page, Row target) {
            super(page, target);
        }

        @Override
        void startPage() {
            target.put('{');
            if (numberColours() > 0) {
                writeTable();
            }
        }

        private int numberColours() {
            for (int colour = 0; colour <= LARGEST_COLOUR; colour++) {
                entries[colour] = 0;
            }
            for (int i = 0; i < page.letters(); i++) {
                entries[colourOf(page.lookAt(i))] = 1;
            }
            // Colour 0 has entry 0 in every table, so it takes no number.
            entries[0] = 0;
            int last = 0;
            for (int colour = 1; colour <= LARGEST_COLOUR; colour++) {
                if (entries[colour] != 0) {
                    last++;
                    entries[colour] = last;
                }
            }
            return last;
        }

        private void writeTable() {
            target.putText("{\\colortbl;");
            for (int colour = 1; colour <= LARGEST_COLOUR; colour++) {
                if (entries[colour] != 0) {
                    target.putText(colourName(colour));
                    target.put(';');
                }
            }
            target.put('}');
        }

        @Override
        void startParagraph(int alignment, int indent) {
            target.putText("\\pard");
            if (alignment != 0) {
                target.putText(alignment == 1 ? "\\qc" : "\\qr");
            }
            writeNumberWord("\\li", indent, 0);
        }

        @Override
        void startRun(int look) {
            target.put('{');
            int before = target.size();
            writeStyleWord("\\b", look, BOLD);
            writeStyleWord("\\i", look, ITALIC);
            writeStyleWord("\\ul", look, UNDERLINED);
            writeNumberWord("\\fs", sizeOf(look), PLAIN_SIZE);
            writeNumberWord("\\cf", entries[colourOf(look)], 0);
            if (target.size() > before) {
                target.put(' ');
            }
        }

        private void writeStyleWord(String word, int look, int bit) {
            if ((styleOf(look) & bit) != 0) {
                target.putText(word);
            }
        }

        private void writeNumberWord(String word, int number, int unwritten) {
            if (number != unwritten) {
                target.putText(word);
                target.putNumber(number);
            }
        }

        @Override
        void writeLetter(int code) {
            if (code >= FIRST_ESCAPED_CODE) {
                target.putText("\\'");
                target.put(hexDigit(code >> 4 & 15));
                target.put(hexDigit(code & 15));
                return;
            }
            if (code == '{' || code == '}' || code == '\\') {
                target.put('\\');
            }
            target.put(code);
        }

        private static int hexDigit(int value) {
            return value < 10 ? '0' + value : 'a' + value - 10;
        }

        @Override
        void endRun(int look) {
            target.put('}');
        }

        @Override
        void endParagraph() {
            target.putText("\\par");
        }

        @Override
        void endPage() {
            target.put('}');
        }
    }

    private static final class TaggedWriter extends Writer {
        TaggedWriter(Page page, Row target) {
            super(page, target);
        }

        @Override
        void startPage() {
        }

        @Override
        void startParagraph(int alignment, int indent) {
            target.putText("<p");
            if (alignment != 0 || indent != 0) {
                target.put(' ');
            }
            if (alignment != 0) {
                target.put(alignment == 1 ? 'C' : 'R');
            }
            if (indent != 0) {
                target.putNumber(indent);
            }
            target.put('>');
        }

        @Override
        void startRun(int look) {
            writeStyleTag("<b>", look, BOLD);
            writeStyleTag("<i>", look, ITALIC);
            writeStyleTag("<u>", look, UNDERLINED);
            writeNumberTag("<s ", sizeOf(look), PLAIN_SIZE);
            writeNumberTag("<c ", colourOf(look), 0);
        }

        @Override
        void endRun(int look) {
            if (colourOf(look) != 0) {
                target.putText("</c>");
            }
            if (sizeOf(look) != PLAIN_SIZE) {
                target.putText("</s>");
            }
            writeStyleTag("</u>", look, UNDERLINED);
            writeStyleTag("</i>", look, ITALIC);
            writeStyleTag("</b>", look, BOLD);
        }

        private void writeStyleTag(String tag, int look, int bit) {
            if ((styleOf(look) & bit) != 0) {
                target.putText(tag);
            }
        }

        private void writeNumberTag(String start, int number, int unwritten) {
            if (number != unwritten) {
                target.putText(start);
                target.putNumber(number);
                target.put('>');
            }
        }

        @Override
        void writeLetter(int code) {
            if (code >= FIRST_ESCAPED_CODE) {
                target.put('&');
                target.putNumber(code);
                target.put(';');
            } else if (code == '<') {
                target.putText("&lt;");
            } else if (code == '>') {
                target.putText("&gt;");
            } else if (code == '&') {
                target.putText("&amp;");
            } else {
                target.put(code);
            }
        }

        @Override
        void endParagraph() {
            target.putText("</p>");
        }

        @Override
        void endPage() {
        }
    }
}
