import java.util.ArrayList;
import java.util.Arrays;

/** A customs paper office; ../shared/DOC.md says what each call answers. */
public final class CustomsDesk {
    public static final int NONE = -1;

    private static final int TAPE_BYTES = 3000;

    // Limits of a text.
    private static final int MAX_GROUPS = 8;
    private static final int MAX_CHAINS = 6;
    private static final int MAX_ROW = 8;
    private static final int MAX_RULES = 16;
    private static final int MAX_MARKS = 16;
    private static final int MAX_KINDS = 16;
    private static final int MAX_NAMES = 62;
    private static final int MAX_MEMBERS = 12;
    private static final int MAX_USES = 8;
    private static final int MAX_ARGS = 4;
    private static final int MAX_STEPS = 40;
    private static final int PILE = 16;
    private static final int NAME_BYTES = 8;
    private static final int NUMBER_DIGITS = 9;
    private static final int STRING_BYTES = 30;

    // Limits of what is opened, held and kept.
    private static final int MAX_OPENED = 100;
    private static final int MAX_HELD = 40;
    private static final int MAX_MISUSES = 200;
    private static final int MAX_PAPERS = 200;
    private static final int MAX_ITEMS = 20;
    private static final int MAX_ASKINGS = 5000;
    private static final int MAX_FOUNDS = 500;
    private static final int MAX_CUTS = 60;
    private static final int MAX_WAY = 40;
    private static final int MAX_TEXT = 80;
    private static final int MAX_BREAKS = 20;
    // Each paper is met once a group, and a chain has eight groups.
    private static final int MAX_VISITS = MAX_PAPERS * MAX_ROW;
    private static final int MANY = 1000000;

    // Sorts of tokens; a sign's sort is its byte, which is above these.
    private static final int END = 0;
    private static final int BAD = 1;
    private static final int NAME = 2;
    private static final int NUMBER = 3;
    private static final int STRING = 4;
    private static final int WORD = 5;
    private static final String SIGNS = ";:,(){}=!?@#+-*/%<>&|~";
    private static final String STEP_SIGNS = "+-*/%<>&|~";

    // The words by their bytes, in the order of the numbers below.
    private static final long[] WORDS = {0x67726f7570L, 0x636861696eL, 0x72756c65L, 0x737461727473L, 0x6d61726bL,
        0x6b696e64L, 0x6f66L, 0x696e74L, 0x74657874L, 0x6c697374L};
    private static final int WORD_GROUP = 0;
    private static final int WORD_CHAIN = 1;
    private static final int WORD_RULE = 2;
    private static final int WORD_STARTS = 3;
    private static final int WORD_MARK = 4;
    private static final int WORD_KIND = 5;
    private static final int WORD_OF = 6;
    private static final int WORD_INT = 7;
    private static final int WORD_TEXT = 8;
    private static final int WORD_LIST = 9;

    // The built-in rules by their bytes; the code of each is its place here and 1.
    private static final long[] BUILT_IN = {0x6e656564L, 0x676fL, 0x6c65617374L, 0x6d6f7374L, 0x73697a65L,
        0x6f6e656f66L, 0x62656c6f77L, 0x746f74616cL};
    private static final int NEED = 1;
    private static final int GO = 2;
    private static final int LEAST = 3;
    private static final int MOST = 4;
    private static final int SIZE = 5;
    private static final int ONE_OF = 6;
    private static final int BELOW = 7;
    private static final int TOTAL = 8;
    private static final int OWN = 100;
    private static final int MARKED = 200;
    private static final long ALL = 0x616c6cL;

    // Sorts of what has a name.
    private static final int GROUP_NAME = 1;
    private static final int CHAIN_NAME = 2;
    private static final int RULE_NAME = 3;
    private static final int MARK_NAME = 4;
    private static final int KIND_NAME = 5;

    // Types of a spot.
    private static final int TYPE_INT = 1;
    private static final int TYPE_TEXT = 2;
    private static final int TYPE_PAPER = 3;
    private static final int TYPE_LIST = 4;
    private static final int TYPE_STAR = 5;
    private static final int TYPE_MARK = 6;

    // States of an own rule.
    private static final int NOT_STARTED = 0;
    private static final int STARTED = 1;
    private static final int FAILED = 2;

    // The columns of a row of what an outer use has.
    private static final int SEVERITY = 0;
    private static final int GROUP = 1;
    private static final int PAID = 2;
    private static final int PAYLOAD = 3;
    private static final int STRING_AT = 4;
    private static final int STRING_LENGTH = 5;
    private static final int COLUMNS = 6;

    private final byte[] tape;
    private final Tokens tokens;
    private final Opener opener;
    private final Check latest;
    private final ArrayList<Paper> papers;
    private final StringBuilder words;
    private Book book;
    private int length;
    private int faultCode;
    private int faultPlace;

    public CustomsDesk() {
        tape = new byte[TAPE_BYTES];
        tokens = new Tokens();
        opener = new Opener();
        papers = new ArrayList<>();
        latest = new Check(papers);
        words = new StringBuilder();
        book = new Book();
        latest.forget(book);
        faultPlace = NONE;
    }

    public int feed(int a, int b, int c, int d, int e) {
        if (length > TAPE_BYTES - 20) {
            return NONE;
        }
        putBytes(a);
        putBytes(b);
        putBytes(c);
        putBytes(d);
        putBytes(e);
        return length;
    }

    private void putBytes(int four) {
        for (int shift = 24; shift >= 0 && length < TAPE_BYTES; shift -= 8) {
            tape[length] = (byte) (four >> shift);
            length++;
        }
    }

    public int end(int n) {
        if (n < 0 || n > length) {
            return NONE;
        }
        length = n;
        return n;
    }

    public int take() {
        tokens.scan(tape, length);
        int bytes = length;
        length = 0;
        Reader reader = new Reader(tokens, null);
        reader.read();
        if (reader.fault == 0) {
            reader = new Reader(tokens, reader.book);
            reader.read();
        }
        faultCode = reader.fault;
        faultPlace = reader.fault == 0 ? NONE : reader.place;
        if (reader.fault != 0) {
            return NONE;
        }
        book = reader.book;
        book.text = Arrays.copyOf(tape, bytes);
        opener.open(book);
        papers.clear();
        latest.forget(book);
        return book.kinds.size();
    }

    public int fault(int what) {
        if (what == 0) {
            return faultCode;
        }
        return what == 1 ? faultPlace : NONE;
    }

    public int named(long name) {
        return book.find(Book.pack(name));
    }

    public int kind(int kind, int what) {
        Kind asked = book.kindAt(kind);
        if (asked == null) {
            return NONE;
        }
        if (what == 0) {
            return asked.members.size();
        }
        return what == 1 ? asked.above : NONE;
    }

    public int member(int kind, long name) {
        Kind asked = book.kindAt(kind);
        return asked == null ? NONE : asked.find(Book.pack(name));
    }

    public int misuse(int k, int what) {
        if (k < 0 || k >= opener.misuseCount || what < 0 || what > 3) {
            return NONE;
        }
        return opener.misuses[k][what];
    }

    public int paper(int kind) {
        Kind asked = book.kindAt(kind);
        if (asked == null || papers.size() >= MAX_PAPERS) {
            return NONE;
        }
        papers.add(new Paper(asked));
        return papers.size() - 1;
    }

    private Paper paperAt(int paper) {
        return paper >= 0 && paper < papers.size() ? papers.get(paper) : null;
    }

    public boolean setInt(int paper, int member, int v, boolean there) {
        Paper asked = paperAt(paper);
        if (asked == null || asked.typeOf(member) != TYPE_INT) {
            return false;
        }
        asked.put(member, v, there);
        return true;
    }

    public boolean setText(int paper, int member, long letters, boolean there) {
        Paper asked = paperAt(paper);
        if (asked == null || asked.typeOf(member) != TYPE_TEXT) {
            return false;
        }
        int count = countLetters(letters);
        if (count == NONE) {
            return false;
        }
        asked.put(member, count, there);
        return true;
    }

    private static int countLetters(long letters) {
        int count = 0;
        for (int shift = 0; shift < 64; shift += 8) {
            int letter = (int) (letters >>> shift) & 255;
            if (letter != 0 && (letter < 32 || letter > 126)) {
                return NONE;
            }
            if (letter != 0) {
                count++;
            }
        }
        return count;
    }

    public boolean link(int paper, int member, int other) {
        Paper asked = paperAt(paper);
        if (asked == null || asked.typeOf(member) != TYPE_PAPER) {
            return false;
        }
        if (other == NONE) {
            asked.put(member, 0, false);
            return true;
        }
        Paper linked = paperAt(other);
        if (linked == null || !linked.kind.isOf(asked.kindOf(member))) {
            return false;
        }
        asked.put(member, other, true);
        return true;
    }

    public int item(int paper, int member, int other) {
        Paper asked = paperAt(paper);
        Paper added = paperAt(other);
        if (asked == null || added == null || asked.typeOf(member) != TYPE_LIST) {
            return NONE;
        }
        if (!added.kind.isOf(asked.kindOf(member))) {
            return NONE;
        }
        return asked.append(member, other);
    }

    public int value(int paper, int member, int what) {
        Paper asked = paperAt(paper);
        if (asked == null || asked.typeOf(member) == NONE || what < 0 || what > 1) {
            return NONE;
        }
        if (what == 0) {
            return asked.has(member) ? 1 : 0;
        }
        return asked.valueOf(member);
    }

    public int check(int paper, int chain) {
        if (paperAt(paper) == null || chain < 0 || chain >= book.chainCount) {
            return NONE;
        }
        latest.run(paper, book.chains[chain]);
        return latest.told;
    }

    public int found(int k, int what) {
        Found asked = latest.foundAt(k);
        if (asked == null) {
            return NONE;
        }
        switch (what) {
            case 0: return asked.use.code;
            case 1: return asked.use.severity;
            case 2: return asked.use.payload;
            case 3: return asked.paper;
            case 4: return asked.member;
            case 5: return asked.cause;
            case 6: return latest.wayLength(asked);
            case 7: return composeText(asked);
            case 8: return asked.proposed ? 1 : 0;
            case 9: return asked.proposal;
            default: return NONE;
        }
    }

    public int way(int k, int i) {
        Found asked = latest.foundAt(k);
        return asked == null ? NONE : latest.wayStep(asked, i);
    }

    public int text(int k, int i) {
        Found asked = latest.foundAt(k);
        if (asked == null || i < 0 || i >= composeText(asked)) {
            return NONE;
        }
        return words.charAt(i);
    }

    /** How many bytes of a found's text are kept; they stand in the words then. */
    private int composeText(Found found) {
        words.setLength(0);
        found.compose(book.text, words);
        return Math.min(words.length(), MAX_TEXT);
    }

    public int failed(int k, int what) {
        if (k < 0 || k >= book.failed.size()) {
            return NONE;
        }
        if (what == 0) {
            return book.failed.get(k).number;
        }
        return what == 1 ? book.failed.get(k).cause : NONE;
    }

    public int asked(int rule, int what) {
        Rule own = book.ruleAt(rule);
        if (own == null) {
            return NONE;
        }
        if (what == 0) {
            return own.asked;
        }
        return what == 1 ? own.state : NONE;
    }

    public int cut(int k) {
        return k >= 0 && k < latest.cutCount ? latest.cuts[k] : NONE;
    }

    public int groups() {
        return latest.groupsGone;
    }

    public int wouldBe(int paper, int member, int v) {
        Paper asked = paperAt(paper);
        if (asked == null || asked.typeOf(member) != TYPE_INT) {
            return NONE;
        }
        return book.countAgainst(asked.kind.members.get(member), v);
    }

    public int correct() {
        return latest.setProposals();
    }

    /** The tokens of a text, as rows that are used again for each text. */
    private static final class Tokens {
        final int[] sorts;
        final int[] places;
        final long[] values;

        Tokens() {
            sorts = new int[TAPE_BYTES + 1];
            places = new int[TAPE_BYTES + 1];
            values = new long[TAPE_BYTES + 1];
        }

        /** Reads up to the end, or to the first place where no token is. */
        void scan(byte[] tape, int length) {
            int at = 0;
            for (int n = 0; n <= TAPE_BYTES; n++) {
                while (at < length && (tape[at] == ' ' || tape[at] == '\n')) {
                    at++;
                }
                places[n] = at;
                values[n] = 0;
                if (at >= length) {
                    sorts[n] = END;
                    return;
                }
                int bytes = readOne(tape, length, at, n);
                if (bytes == 0) {
                    sorts[n] = BAD;
                    return;
                }
                at += bytes;
            }
        }

        /** How many bytes the token at a place has; 0: none is there. */
        private int readOne(byte[] tape, int length, int at, int n) {
            int first = tape[at];
            if (isLetter(first)) {
                return readName(tape, length, at, n);
            }
            if (first == '"') {
                return readString(tape, length, at, n);
            }
            int bytes = readNumber(tape, length, at, n);
            if (bytes == 0 && first > 0 && SIGNS.indexOf((char) first) >= 0) {
                sorts[n] = first;
                bytes = 1;
            }
            return bytes;
        }

        private int readName(byte[] tape, int length, int at, int n) {
            int bytes = 0;
            long name = 0;
            while (bytes < NAME_BYTES && at + bytes < length
                    && (isLetter(tape[at + bytes]) || isDigit(tape[at + bytes]))) {
                name = (name << 8) | tape[at + bytes];
                bytes++;
            }
            sorts[n] = NAME;
            values[n] = name;
            for (int i = 0; i < WORDS.length; i++) {
                if (WORDS[i] == name) {
                    sorts[n] = WORD;
                    values[n] = i;
                }
            }
            return bytes;
        }

        private int readString(byte[] tape, int length, int at, int n) {
            int bytes = 0;
            int next = at + 1;
            while (bytes < STRING_BYTES && next < length
                    && tape[next] >= 32 && tape[next] <= 126 && tape[next] != '"') {
                bytes++;
                next++;
            }
            if (next >= length || tape[next] != '"') {
                return 0;
            }
            sorts[n] = STRING;
            values[n] = bytes;
            return bytes + 2;
        }

        private int readNumber(byte[] tape, int length, int at, int n) {
            int first = tape[at] == '-' ? at + 1 : at;
            int next = first;
            int number = 0;
            while (next < length && next - first < NUMBER_DIGITS && isDigit(tape[next])) {
                number = number * 10 + (tape[next] - '0');
                next++;
            }
            if (next == first || (next < length && (isLetter(tape[next]) || isDigit(tape[next])))) {
                return 0;
            }
            sorts[n] = NUMBER;
            values[n] = first > at ? -number : number;
            return next - at;
        }

        private static boolean isLetter(int b) {
            return b >= 'a' && b <= 'z';
        }

        private static boolean isDigit(int b) {
            return b >= '0' && b <= '9';
        }
    }

    /**
     * Reads a text into a book. Names may stand ahead of what tells them, so a text is read twice: at first for the
     * faults 1 to 4 and for the names that it tells, then with these names known, for fault 5 and the book itself.
     */
    private static final class Reader {
        final Book book;
        int fault;
        int place;
        private final Tokens tokens;
        private final Book known;
        private int at;
        private int sort;
        private long value;
        private final int[] row;
        private int rowCount;
        private final int[] stepOps;
        private final int[] stepNumbers;
        private int stepCount;

        Reader(Tokens tokens, Book known) {
            this.tokens = tokens;
            this.known = known;
            book = new Book();
            row = new int[MAX_ROW];
            stepOps = new int[MAX_STEPS];
            stepNumbers = new int[MAX_STEPS];
            place = NONE;
            at = 0;
            sort = tokens.sorts[0];
            value = tokens.values[0];
        }

        private void advance() {
            // Behind the end, or what is no token, nothing was scanned.
            if (sort != END && sort != BAD && at < TAPE_BYTES) {
                at++;
                sort = tokens.sorts[at];
                value = tokens.values[at];
            }
        }

        private boolean wrong(int code) {
            fault = sort == BAD ? 1 : code;
            place = tokens.places[at];
            return false;
        }

        private boolean isWord(int word) {
            return sort == WORD && value == word;
        }

        void read() {
            boolean well = true;
            for (int n = 0; n <= TAPE_BYTES && well && sort != END; n++) {
                if (isWord(WORD_GROUP)) {
                    well = readGroup();
                } else if (isWord(WORD_CHAIN)) {
                    well = readChain();
                } else if (isWord(WORD_RULE)) {
                    well = readRule();
                } else if (isWord(WORD_MARK)) {
                    well = readMark();
                } else if (isWord(WORD_KIND)) {
                    well = readKind();
                } else {
                    well = wrong(2);
                }
            }
        }

        private boolean readSign(int sign) {
            if (sort != sign) {
                return wrong(2);
            }
            advance();
            return true;
        }

        /** The word, and the NAME behind it, of the number-th of at most so many of a sort. */
        private boolean readHead(int sortOfName, int number, int most) {
            if (number >= most) {
                return wrong(2);
            }
            advance();
            if (sort != NAME) {
                return wrong(2);
            }
            // The built-in rules have their names ahead of every text.
            if (Book.builtIn(value) != 0 || book.find(value) != NONE) {
                return wrong(3);
            }
            book.tell(value, sortOfName * 100 + number);
            advance();
            return true;
        }

        /** The number of what the NAME here names; NONE, and fault 5, if it is no such one. */
        private int readReference(int sortOfName) {
            int number = 0;
            if (known != null) {
                int code = known.find(value);
                if (code == NONE || code / 100 != sortOfName) {
                    wrong(5);
                    return NONE;
                }
                number = code % 100;
            }
            return number;
        }

        /** A row of groups with numbers below a bound. */
        private boolean readRow(int bound) {
            rowCount = 0;
            for (int n = 0; n <= MAX_ROW; n++) {
                if (sort != NAME || rowCount >= MAX_ROW) {
                    return wrong(2);
                }
                int number = readReference(GROUP_NAME);
                if (number == NONE) {
                    return false;
                }
                if (number >= bound) {
                    return wrong(5);
                }
                row[rowCount] = number;
                rowCount++;
                advance();
                if (sort != ',') {
                    return true;
                }
                advance();
            }
            return false;
        }

        private boolean readGroup() {
            int number = book.groupCount;
            if (!readHead(GROUP_NAME, number, MAX_GROUPS)) {
                return false;
            }
            rowCount = 0;
            if (sort == ':') {
                advance();
                if (!readRow(number)) {
                    return false;
                }
            }
            book.addGroup(row, rowCount);
            return readSign(';');
        }

        private boolean readChain() {
            if (!readHead(CHAIN_NAME, book.chainCount, MAX_CHAINS) || !readSign(':') || !readRow(MAX_GROUPS)) {
                return false;
            }
            book.addChain(row, rowCount);
            return readSign(';');
        }

        private boolean readRule() {
            int number = book.rules.size();
            if (!readHead(RULE_NAME, number, MAX_RULES)) {
                return false;
            }
            Rule rule = new Rule(number);
            book.rules.add(rule);
            stepCount = 0;
            if (isWord(WORD_STARTS)) {
                advance();
                if (!readSteps(true)) {
                    return false;
                }
            }
            rule.startOps = Arrays.copyOf(stepOps, stepCount);
            rule.startNumbers = Arrays.copyOf(stepNumbers, stepCount);
            if (!readSign('=') || !readSteps(false)) {
                return false;
            }
            rule.ops = Arrays.copyOf(stepOps, stepCount);
            rule.numbers = Arrays.copyOf(stepNumbers, stepCount);
            return readSign(';');
        }

        /** Steps up to the = or ; behind them. */
        private boolean readSteps(boolean starts) {
            int depth = 0;
            stepCount = 0;
            for (int n = 0; n <= MAX_STEPS; n++) {
                if (starts ? sort == '=' && !twoEquals() : sort == ';') {
                    return endSteps(starts, depth);
                }
                int op = opHere();
                if (op == 0 || stepCount >= MAX_STEPS) {
                    return wrong(2);
                }
                if (op == '=' && !twoEquals()) {
                    advance();
                    return wrong(2);
                }
                depth = depthBehind(op, depth, starts);
                if (depth == NONE) {
                    return wrong(4);
                }
                stepOps[stepCount] = op;
                stepNumbers[stepCount] = op == 'n' ? (int) value : 0;
                stepCount++;
                if (op == '=') {
                    advance();
                }
                advance();
            }
            return false;
        }

        private boolean endSteps(boolean starts, int depth) {
            // Only starts may have no step: of a rule without one nothing comes out.
            return (starts && stepCount == 0) || depth == 1 || wrong(4);
        }

        private boolean twoEquals() {
            return at < TAPE_BYTES && tokens.sorts[at + 1] == '=';
        }

        /** The step at the token here: n for a NUMBER, else its letter or sign; 0: none. */
        private int opHere() {
            if (sort == NUMBER) {
                return 'n';
            }
            if (sort == NAME) {
                return value == 'v' || value == 'a' || value == 'b' ? (int) value : 0;
            }
            if (sort == '=') {
                return sort;
            }
            return sort > WORD && STEP_SIGNS.indexOf((char) sort) >= 0 ? sort : 0;
        }

        /** How many are on the pile behind a step; NONE: it can't be. */
        private static int depthBehind(int op, int depth, boolean starts) {
            boolean letter = op == 'v' || op == 'a' || op == 'b';
            if (letter || op == 'n') {
                return (letter && starts) || depth >= PILE ? NONE : depth + 1;
            }
            if (op == '~') {
                return depth < 1 ? NONE : depth;
            }
            return depth < 2 ? NONE : depth - 1;
        }

        private boolean readMark() {
            if (!readHead(MARK_NAME, book.marks.size(), MAX_MARKS) || !readSign('=')) {
                return false;
            }
            Spot mark = new Spot(0, TYPE_MARK);
            book.marks.add(mark);
            return readUses(mark) && readSign(';');
        }

        private boolean readKind() {
            int number = book.kinds.size();
            if (!readHead(KIND_NAME, number, MAX_KINDS)) {
                return false;
            }
            int above = NONE;
            if (isWord(WORD_OF)) {
                advance();
                if (sort != NAME) {
                    return wrong(2);
                }
                int code = known == null ? book.find(value) : known.find(value);
                boolean ahead = code != NONE && code / 100 == KIND_NAME && code % 100 < number;
                if (!ahead && known != null) {
                    return wrong(5);
                }
                above = ahead ? code % 100 : NONE;
                advance();
            }
            Kind kind = new Kind(number, book.kindAt(above));
            book.kinds.add(kind);
            if (!readSign('{')) {
                return false;
            }
            for (int n = 0; n <= TAPE_BYTES && sort != '}'; n++) {
                if (sort == '*' ? !readStar(kind) : !readMember(kind)) {
                    return false;
                }
            }
            return readSign('}');
        }

        private boolean readStar(Kind kind) {
            advance();
            return readSign('=') && readUses(kind.star) && readSign(';');
        }

        private boolean readMember(Kind kind) {
            if (sort != NAME || kind.members.size() >= MAX_MEMBERS) {
                return wrong(2);
            }
            if (kind.find(value) != NONE) {
                return wrong(3);
            }
            Spot spot = new Spot(value, TYPE_INT);
            kind.members.add(spot);
            advance();
            if (!readSign(':') || !readType(spot)) {
                return false;
            }
            if (sort == '=') {
                advance();
                if (!readUses(spot)) {
                    return false;
                }
            }
            return readSign(';');
        }

        private boolean readType(Spot spot) {
            if (isWord(WORD_INT) || isWord(WORD_TEXT)) {
                spot.type = value == WORD_INT ? TYPE_INT : TYPE_TEXT;
                advance();
                return true;
            }
            spot.type = TYPE_PAPER;
            if (isWord(WORD_LIST)) {
                spot.type = TYPE_LIST;
                advance();
            }
            if (sort != NAME) {
                return wrong(2);
            }
            spot.kind = readReference(KIND_NAME);
            if (spot.kind == NONE) {
                return false;
            }
            advance();
            return true;
        }

        private boolean readUses(Spot spot) {
            for (int n = 0; n <= MAX_USES; n++) {
                if (sort != NAME || spot.uses.size() >= MAX_USES) {
                    return wrong(2);
                }
                if (!readUse(spot)) {
                    return false;
                }
                if (sort != ',') {
                    return true;
                }
                advance();
            }
            return false;
        }

        private boolean readUse(Spot spot) {
            int code = readUseName();
            if (code == NONE) {
                return false;
            }
            Use use = new Use(code);
            spot.uses.add(use);
            advance();
            if (sort == '(' && !readArgs(use)) {
                return false;
            }
            if (sort == '!' || sort == '?') {
                use.severity = sort == '!' ? 0 : 1;
                advance();
            }
            if (sort == '@') {
                advance();
                if (sort != NAME) {
                    return wrong(2);
                }
                use.group = readReference(GROUP_NAME);
                if (use.group == NONE) {
                    return false;
                }
                advance();
            }
            if (sort == '#') {
                advance();
                if (sort != NUMBER) {
                    return wrong(2);
                }
                use.paid = true;
                use.payload = (int) value;
                advance();
            }
            if (sort == STRING) {
                // The bytes stand behind the opening quote.
                use.stringAt = tokens.places[at] + 1;
                use.stringLength = (int) value;
                advance();
            }
            return true;
        }

        /** The code of what a use names; 0 while names are not known yet; NONE, and fault 5, if it is nothing. */
        private int readUseName() {
            int code = Book.builtIn(value);
            if (code != 0 || known == null) {
                return code;
            }
            int named = known.find(value);
            if (named != NONE && named / 100 == RULE_NAME) {
                return OWN + named % 100;
            }
            if (named != NONE && named / 100 == MARK_NAME) {
                return MARKED + named % 100;
            }
            wrong(5);
            return NONE;
        }

        private boolean readArgs(Use use) {
            use.args = new int[MAX_ARGS];
            use.names = new long[MAX_ARGS];
            for (int n = 0; n <= MAX_ARGS; n++) {
                advance();
                if ((sort != NUMBER && sort != NAME) || n >= MAX_ARGS) {
                    return wrong(2);
                }
                use.args[n] = sort == NUMBER ? (int) value : 0;
                use.names[n] = sort == NAME ? value : 0;
                use.argCount = n + 1;
                advance();
                if (sort == ')') {
                    advance();
                    return true;
                }
                if (sort != ',') {
                    return wrong(2);
                }
            }
            return false;
        }
    }

    /** What a text tells. */
    private static final class Book {
        final ArrayList<Rule> rules;
        final ArrayList<Rule> failed;
        final ArrayList<Spot> marks;
        final ArrayList<Kind> kinds;
        final int[][] chains;
        int chainCount;
        int groupCount;
        byte[] text;
        // Bit g of a group's mask: it is group g, or takes it in at some depth.
        private final int[] masks;
        private final long[] names;
        private final int[] codes;
        private int nameCount;

        Book() {
            rules = new ArrayList<>();
            failed = new ArrayList<>();
            marks = new ArrayList<>();
            kinds = new ArrayList<>();
            chains = new int[MAX_CHAINS][];
            masks = new int[MAX_GROUPS];
            names = new long[MAX_NAMES];
            codes = new int[MAX_NAMES];
            masks[0] = 1;
            groupCount = 1;
            names[0] = ALL;
            codes[0] = GROUP_NAME * 100;
            nameCount = 1;
        }

        /** The bytes of a name that are not 0, as the lowest ones. */
        static long pack(long name) {
            long packed = 0;
            for (int shift = 56; shift >= 0; shift -= 8) {
                long b = (name >>> shift) & 255;
                if (b != 0) {
                    packed = (packed << 8) | b;
                }
            }
            return packed;
        }

        /** The code of a built-in rule; 0: it is none. */
        static int builtIn(long name) {
            for (int i = 0; i < BUILT_IN.length; i++) {
                if (BUILT_IN[i] == name) {
                    return i + 1;
                }
            }
            return 0;
        }

        int find(long name) {
            for (int i = 0; i < nameCount; i++) {
                if (names[i] == name) {
                    return codes[i];
                }
            }
            return NONE;
        }

        void tell(long name, int code) {
            if (nameCount < MAX_NAMES) {
                names[nameCount] = name;
                codes[nameCount] = code;
                nameCount++;
            }
        }

        void addGroup(int[] row, int count) {
            if (groupCount < MAX_GROUPS) {
                int mask = 1 << groupCount;
                for (int i = 0; i < count; i++) {
                    mask |= maskOf(row[i]);
                }
                masks[groupCount] = mask;
                groupCount++;
            }
        }

        void addChain(int[] row, int count) {
            if (chainCount < MAX_CHAINS) {
                chains[chainCount] = Arrays.copyOf(row, count);
                chainCount++;
            }
        }

        int maskOf(int group) {
            return group >= 0 && group < MAX_GROUPS ? masks[group] : 0;
        }

        Kind kindAt(int kind) {
            return kind >= 0 && kind < kinds.size() ? kinds.get(kind) : null;
        }

        Rule ruleAt(int rule) {
            return rule >= 0 && rule < rules.size() ? rules.get(rule) : null;
        }

        /** Starts a rule that was not asked before, and tells whether it can be asked. */
        boolean isReady(Rule rule) {
            if (rule.state == NOT_STARTED) {
                boolean done = rule.work(true, 0, 0, 0);
                rule.state = STARTED;
                if (!done || rule.left == 0) {
                    fail(rule, done ? 2 : 1);
                }
            }
            return rule.state == STARTED;
        }

        /** Whether the steps could be done to the end; what they leave stands in the rule. */
        boolean judge(Rule rule, int v, Use use) {
            boolean done = rule.work(false, v, use.arg(0), use.arg(1));
            if (!done) {
                rule.breaks++;
                if (rule.breaks >= MAX_BREAKS) {
                    fail(rule, 3);
                }
            }
            return done;
        }

        private void fail(Rule rule, int cause) {
            rule.state = FAILED;
            rule.cause = cause;
            failed.add(rule);
        }

        /** How many uses at an int member would not hold at v. */
        int countAgainst(Spot spot, int v) {
            int count = 0;
            for (int i = 0; i < spot.held.size(); i++) {
                Use use = spot.held.get(i);
                if (use.code < OWN) {
                    count += use.lets(v) ? 0 : 1;
                } else {
                    Rule rule = ruleAt(use.code - OWN);
                    if (rule != null && rule.state == STARTED && judge(rule, v, use) && rule.left == 0) {
                        count++;
                    }
                }
            }
            return count;
        }

        /** Whether a below or total reads a member of the papers of a kind. */
        boolean isRead(Kind kind, int member) {
            for (int k = 0; k < kinds.size(); k++) {
                Kind other = kinds.get(k);
                boolean onKind = kind.isOf(k);
                for (int i = 0; i < other.star.held.size(); i++) {
                    Use use = other.star.held.get(i);
                    if (onKind && use.readsHere(member)) {
                        return true;
                    }
                    if (use.readsInList(member) && kind.isOf(other.listKind(use))) {
                        return true;
                    }
                }
            }
            return false;
        }
    }

    /** An own rule, its steps and how it fares. */
    private static final class Rule {
        final int number;
        int[] startOps;
        int[] startNumbers;
        int[] ops;
        int[] numbers;
        int state;
        int cause;
        int breaks;
        int asked;
        int left;
        private final int[] pile;

        Rule(int number) {
            this.number = number;
            startOps = new int[0];
            startNumbers = startOps;
            ops = startOps;
            numbers = startOps;
            pile = new int[PILE];
        }

        /** Does the steps; false: they break off. */
        boolean work(boolean starting, int v, int a, int b) {
            int[] todo = starting ? startOps : ops;
            int[] given = starting ? startNumbers : numbers;
            int depth = 0;
            for (int i = 0; i < todo.length && i < given.length; i++) {
                int op = todo[i];
                if (op == 'n' || op == 'v' || op == 'a' || op == 'b') {
                    if (depth >= PILE) {
                        return false;
                    }
                    pile[depth] = op == 'n' ? given[i] : op == 'v' ? v : op == 'a' ? a : b;
                    depth++;
                } else if (op == '~') {
                    if (depth < 1) {
                        return false;
                    }
                    pile[depth - 1] = pile[depth - 1] == 0 ? 1 : 0;
                } else {
                    if (depth < 2) {
                        return false;
                    }
                    depth--;
                    int y = pile[depth];
                    if (y == 0 && (op == '/' || op == '%')) {
                        return false;
                    }
                    int x = pile[depth - 1];
                    switch (op) {
                        case '+': x = x + y; break;
                        case '-': x = x - y; break;
                        case '*': x = x * y; break;
                        case '/': x = x / y; break;
                        case '%': x = x % y; break;
                        case '<': x = x < y ? 1 : 0; break;
                        case '>': x = x > y ? 1 : 0; break;
                        case '=': x = x == y ? 1 : 0; break;
                        case '&': x = x & y; break;
                        default: x = x | y; break;
                    }
                    pile[depth - 1] = x;
                }
            }
            // Starts without a step are well.
            left = depth == 0 ? 1 : pile[depth - 1];
            return true;
        }
    }

    /** A use as it was read, or as it was opened. */
    private static final class Use {
        final int code;
        int argCount;
        int[] args;
        // 0 where an arg is a NUMBER.
        long[] names;
        // The members that an opened below or total reads.
        int[] reads;
        int severity;
        int group;
        boolean paid;
        int payload;
        int stringAt;
        int stringLength;

        Use(int code) {
            this.code = code;
            severity = NONE;
            group = NONE;
            stringAt = NONE;
        }

        int arg(int i) {
            return args != null && i >= 0 && i < argCount && i < args.length ? args[i] : 0;
        }

        long name(int i) {
            return names != null && i >= 0 && i < argCount && i < names.length ? names[i] : 0;
        }

        int read(int i) {
            return reads != null && i >= 0 && i < reads.length ? reads[i] : NONE;
        }

        boolean takesNumbers(int least, int most) {
            for (int i = 0; i < argCount; i++) {
                if (name(i) != 0) {
                    return false;
                }
            }
            return argCount >= least && argCount <= most;
        }

        /** Whether a built-in rule lets a value of an int, or so many letters or papers. */
        boolean lets(int v) {
            if (code == LEAST) {
                return v >= arg(0);
            }
            if (code == MOST) {
                return v <= arg(0);
            }
            if (code == SIZE) {
                return v >= arg(0) && v <= arg(1);
            }
            boolean one = code != ONE_OF;
            for (int i = 0; i < argCount && !one; i++) {
                one = v == arg(i);
            }
            return one;
        }

        boolean proposes() {
            return code == LEAST || code == MOST || code == ONE_OF;
        }

        /** The nearest value that the rule lets, of two the lower; of least and most it is their one arg. */
        int nearest(int v) {
            if (args == null || argCount < 1 || argCount > args.length) {
                return 0;
            }
            int best = args[0];
            for (int i = 1; i < argCount; i++) {
                long far = Math.abs((long) args[i] - v);
                long bestFar = Math.abs((long) best - v);
                if (far < bestFar || (far == bestFar && args[i] < best)) {
                    best = args[i];
                }
            }
            return best;
        }

        boolean readsHere(int member) {
            if (code == BELOW) {
                return read(0) == member || read(1) == member;
            }
            return code == TOTAL && read(2) == member;
        }

        boolean readsInList(int member) {
            return code == TOTAL && read(1) == member;
        }
    }

    /** A place of uses: a member, the * of a kind, or a mark. */
    private static final class Spot {
        final long name;
        int type;
        // The kind of its papers.
        int kind;
        final ArrayList<Use> uses;
        // Opened uses that hold.
        final ArrayList<Use> held;
        boolean goes;

        Spot(long name, int type) {
            this.name = name;
            this.type = type;
            kind = NONE;
            uses = new ArrayList<>();
            held = new ArrayList<>();
        }
    }

    /** A kind of papers, with the members of those above it ahead of its own. */
    private static final class Kind {
        final int number;
        final int above;
        // The topmost kind first, this one last.
        final int[] line;
        final ArrayList<Spot> members;
        final int firstOwn;
        final Spot star;

        Kind(int number, Kind parent) {
            this.number = number;
            members = new ArrayList<>();
            star = new Spot(0, TYPE_STAR);
            if (parent == null) {
                above = NONE;
                line = new int[1];
            } else {
                above = parent.number;
                line = Arrays.copyOf(parent.line, parent.line.length + 1);
                for (int i = 0; i < parent.members.size(); i++) {
                    members.add(parent.members.get(i));
                }
            }
            line[line.length - 1] = number;
            firstOwn = members.size();
        }

        boolean isOf(int other) {
            for (int i = 0; i < line.length; i++) {
                if (line[i] == other) {
                    return true;
                }
            }
            return false;
        }

        int find(long name) {
            for (int i = 0; i < members.size(); i++) {
                if (members.get(i).name == name) {
                    return i;
                }
            }
            return NONE;
        }

        /** The number of a member with a name and a type; NONE. */
        int findTyped(long name, int type) {
            int member = find(name);
            return member != NONE && members.get(member).type == type ? member : NONE;
        }

        /** The kind of the papers that a total of this kind's * adds up; NONE. */
        int listKind(Use use) {
            int member = use.read(0);
            return member >= 0 && member < members.size() ? members.get(member).kind : NONE;
        }
    }

    /** Opens the uses of a book's members, and keeps its misuses. */
    private static final class Opener {
        final int[][] misuses;
        int misuseCount;
        private Book book;
        private Kind kind;
        private Spot spot;
        private int member;
        private int opened;
        // Bit m of a mark's mask: mark m comes to be within it.
        private final int[] reach;
        // By depth, what the outer uses have.
        private final int[][] outer;

        Opener() {
            misuses = new int[MAX_MISUSES][4];
            reach = new int[MAX_MARKS];
            outer = new int[MAX_MARKS + 2][COLUMNS];
        }

        void open(Book taken) {
            book = taken;
            misuseCount = 0;
            findReach();
            for (int k = 0; k < book.kinds.size(); k++) {
                kind = book.kinds.get(k);
                turnTo(kind.star, NONE);
                openUses(spot.uses, 0);
                for (int m = kind.firstOwn; m < kind.members.size(); m++) {
                    turnTo(kind.members.get(m), m);
                    openUses(spot.uses, 0);
                }
            }
        }

        private void findReach() {
            int marks = Math.min(book.marks.size(), MAX_MARKS);
            for (int m = 0; m < marks; m++) {
                reach[m] = usedMarks(book.marks.get(m).uses);
            }
            for (int through = 0; through < marks; through++) {
                for (int m = 0; m < marks; m++) {
                    if ((reach[m] & (1 << through)) != 0) {
                        reach[m] |= reach[through];
                    }
                }
            }
        }

        private static int usedMarks(ArrayList<Use> uses) {
            int mask = 0;
            for (int i = 0; i < uses.size(); i++) {
                int mark = uses.get(i).code - MARKED;
                if (mark >= 0 && mark < MAX_MARKS) {
                    mask |= 1 << mark;
                }
            }
            return mask;
        }

        private boolean isRing(int mark) {
            return mark < 0 || mark >= MAX_MARKS || (reach[mark] & (1 << mark)) != 0;
        }

        private void turnTo(Spot place, int number) {
            spot = place;
            member = number;
            opened = 0;
            int[] row = outer[0];
            Arrays.fill(row, NONE);
            row[PAID] = 0;
            row[PAYLOAD] = 0;
            row[STRING_LENGTH] = 0;
        }

        private void openUses(ArrayList<Use> uses, int depth) {
            // A mark that is no ring is within no other one twice, so the depth has its end.
            if (depth > MAX_MARKS) {
                return;
            }
            for (int i = 0; i < uses.size() && opened < MAX_OPENED; i++) {
                Use use = uses.get(i);
                joinRow(use, outer[depth], outer[depth + 1]);
                int mark = use.code - MARKED;
                if (mark >= 0 && mark < book.marks.size() && !isRing(mark)) {
                    openUses(book.marks.get(mark).uses, depth + 1);
                } else {
                    opened++;
                    settle(use, outer[depth + 1]);
                }
            }
        }

        /** What a use has within an outer one, whose own words come first. */
        private static void joinRow(Use use, int[] from, int[] to) {
            to[SEVERITY] = from[SEVERITY] != NONE ? from[SEVERITY] : use.severity;
            to[GROUP] = from[GROUP] != NONE ? from[GROUP] : use.group;
            boolean paid = from[PAID] != 0;
            to[PAID] = paid || use.paid ? 1 : 0;
            to[PAYLOAD] = paid ? from[PAYLOAD] : use.payload;
            boolean texted = from[STRING_AT] != NONE;
            to[STRING_AT] = texted ? from[STRING_AT] : use.stringAt;
            to[STRING_LENGTH] = texted ? from[STRING_LENGTH] : use.stringLength;
        }

        /** An opened use is a misuse, or holds as long as there is room. */
        private void settle(Use use, int[] row) {
            int[] reads = null;
            int why = 0;
            if (use.code >= MARKED) {
                why = 1;
            } else if (!fitsType(use.code, spot.type)) {
                why = 2;
            } else if (use.code == BELOW || use.code == TOTAL) {
                reads = use.code == BELOW ? membersOfBelow(use) : membersOfTotal(use);
                why = reads == null ? 3 : 0;
            } else if (!fitsNumbers(use)) {
                why = 3;
            }
            if (why != 0) {
                keepMisuse(why, use.code);
            } else if (spot.held.size() < MAX_HELD) {
                spot.held.add(hold(use, row, reads));
                spot.goes = spot.goes || use.code == GO;
            }
        }

        private static boolean fitsType(int code, int type) {
            if (type == TYPE_STAR || code == BELOW || code == TOTAL) {
                return type == TYPE_STAR && (code == BELOW || code == TOTAL);
            }
            if (code == NEED) {
                return true;
            }
            if (code == GO) {
                return type == TYPE_PAPER || type == TYPE_LIST;
            }
            if (code == SIZE) {
                return type == TYPE_TEXT || type == TYPE_LIST;
            }
            return type == TYPE_INT;
        }

        private static boolean fitsNumbers(Use use) {
            switch (use.code) {
                case NEED:
                case GO: return use.argCount == 0;
                case LEAST:
                case MOST: return use.takesNumbers(1, 1);
                case SIZE: return use.takesNumbers(2, 2);
                case ONE_OF: return use.takesNumbers(1, MAX_ARGS);
                default: return use.takesNumbers(0, 2);
            }
        }

        private int[] membersOfBelow(Use use) {
            int x = kind.findTyped(use.name(0), TYPE_INT);
            int y = kind.findTyped(use.name(1), TYPE_INT);
            if (use.argCount != 2 || x == NONE || y == NONE) {
                return null;
            }
            int[] reads = {x, y};
            return reads;
        }

        private int[] membersOfTotal(Use use) {
            int x = kind.findTyped(use.name(0), TYPE_LIST);
            int z = kind.findTyped(use.name(2), TYPE_INT);
            if (use.argCount != 3 || x == NONE || z == NONE) {
                return null;
            }
            Kind listed = book.kindAt(kind.members.get(x).kind);
            int y = listed == null ? NONE : listed.findTyped(use.name(1), TYPE_INT);
            if (y == NONE) {
                return null;
            }
            int[] reads = {x, y, z};
            return reads;
        }

        private void keepMisuse(int why, int code) {
            if (misuseCount < MAX_MISUSES) {
                int[] row = misuses[misuseCount];
                row[0] = kind.number;
                row[1] = member;
                row[2] = why;
                row[3] = code;
                misuseCount++;
            }
        }

        private static Use hold(Use use, int[] row, int[] reads) {
            Use held = new Use(use.code);
            held.argCount = use.argCount;
            held.args = use.args;
            held.names = use.names;
            held.reads = reads;
            held.severity = Math.max(row[SEVERITY], 0);
            held.group = Math.max(row[GROUP], 0);
            held.payload = row[PAYLOAD];
            held.stringAt = row[STRING_AT];
            held.stringLength = row[STRING_LENGTH];
            return held;
        }
    }

    /** A paper: of each member an int, how many letters or papers, or a paper's number. */
    private static final class Paper {
        final Kind kind;
        // The latest going through a group that met it.
        int metBy;
        private final int[] values;
        private final boolean[] there;
        private final int[][] lists;
        // By member, the latest check that proposed a value.
        private final int[] proposedBy;

        Paper(Kind kind) {
            this.kind = kind;
            int count = kind.members.size();
            values = new int[count];
            there = new boolean[count];
            lists = new int[count][];
            proposedBy = new int[count];
        }

        int typeOf(int member) {
            return member >= 0 && member < values.length ? kind.members.get(member).type : NONE;
        }

        int kindOf(int member) {
            return member >= 0 && member < values.length ? kind.members.get(member).kind : NONE;
        }

        void put(int member, int v, boolean stays) {
            if (member >= 0 && member < values.length) {
                values[member] = stays ? v : 0;
                there[member] = stays;
            }
        }

        /** How many papers the list has then; NONE: it is full. */
        int append(int member, int other) {
            if (member < 0 || member >= values.length || values[member] < 0 || values[member] >= MAX_ITEMS) {
                return NONE;
            }
            if (lists[member] == null) {
                lists[member] = new int[MAX_ITEMS];
            }
            lists[member][values[member]] = other;
            values[member]++;
            return values[member];
        }

        boolean has(int member) {
            int type = typeOf(member);
            return type == TYPE_LIST || (type != NONE && there[member]);
        }

        int valueOf(int member) {
            return member >= 0 && member < values.length ? values[member] : 0;
        }

        /** How many papers one can go into by a member. */
        int countTargets(int member) {
            int type = typeOf(member);
            if (type == TYPE_LIST) {
                return values[member];
            }
            return type == TYPE_PAPER && there[member] ? 1 : 0;
        }

        int target(int member, int i) {
            if (member < 0 || member >= values.length || i < 0 || i >= MAX_ITEMS) {
                return NONE;
            }
            return lists[member] == null ? values[member] : lists[member][i];
        }

        /** What {v} shows of a member. */
        int shown(int member) {
            if (member < 0 || member >= values.length) {
                return 0;
            }
            if (kind.members.get(member).type == TYPE_PAPER) {
                return there[member] ? 1 : 0;
            }
            return values[member];
        }

        /** Notes a proposal, and tells whether it is the first one of a check for this member. */
        boolean isFirstProposal(int member, int serial) {
            if (member < 0 || member >= values.length || proposedBy[member] == serial) {
                return false;
            }
            proposedBy[member] = serial;
            return true;
        }
    }

    /** What did not hold. */
    private static final class Found {
        Use use;
        int visit;
        int paper;
        int member;
        int cause;
        int shown;
        boolean proposed;
        int proposal;
        // No earlier kept found has a proposal for its paper and member.
        boolean first;

        void compose(byte[] text, StringBuilder words) {
            int from = use.stringAt;
            if (from < 0 || text == null) {
                return;
            }
            int to = Math.min(from + use.stringLength, text.length);
            for (int i = from; i < to; i++) {
                boolean braced = text[i] == '{' && i + 2 < to && text[i + 2] == '}';
                int letter = braced ? text[i + 1] : 0;
                if (letter == 'v' || letter == 'a' || letter == 'b') {
                    words.append(letter == 'v' ? shown : use.arg(letter - 'a'));
                    i += 2;
                } else {
                    words.append((char) text[i]);
                }
            }
        }
    }

    /** The latest check; its rows are used again for each. */
    private static final class Check {
        int told;
        int groupsGone;
        final int[] cuts;
        int cutCount;
        private Book book;
        private final ArrayList<Paper> papers;
        private final ArrayList<Found> founds;
        private boolean errorTold;
        private boolean corrected;
        private int askings;
        private int serial;
        private int pass;
        private int mask;
        private final int[] visitPaper;
        private final int[] visitFrom;
        private final int[] visitStep;
        private final int[] visitDepth;
        private final int[] visitMember;
        private final int[] visitItem;
        private int visitCount;

        Check(ArrayList<Paper> papers) {
            this.papers = papers;
            founds = new ArrayList<>();
            cuts = new int[MAX_CUTS];
            visitPaper = new int[MAX_VISITS];
            visitFrom = new int[MAX_VISITS];
            visitStep = new int[MAX_VISITS];
            visitDepth = new int[MAX_VISITS];
            visitMember = new int[MAX_VISITS];
            visitItem = new int[MAX_VISITS];
        }

        private void clear() {
            told = 0;
            cutCount = 0;
            visitCount = 0;
            askings = 0;
            errorTold = false;
            corrected = false;
        }

        void forget(Book taken) {
            clear();
            book = taken;
            groupsGone = NONE;
        }

        void run(int paper, int[] chain) {
            clear();
            serial++;
            groupsGone = 0;
            for (int r = 0; r < book.rules.size(); r++) {
                book.rules.get(r).asked = 0;
            }
            for (int i = 0; i < chain.length && !errorTold && askings < MAX_ASKINGS; i++) {
                groupsGone++;
                pass++;
                mask = book.maskOf(chain[i]);
                int at = enter(paper, NONE, 0);
                for (int n = 0; n < MANY && at != NONE && askings < MAX_ASKINGS; n++) {
                    // A paper is asked before it is gone on from.
                    if (visitMember[at] == NONE) {
                        visitMember[at] = 0;
                        askPaper(at);
                    } else {
                        at = goOn(at);
                    }
                }
            }
        }

        /** A visit of a paper that was not met yet; visits stay until the next check, for the ways of founds. */
        private int enter(int paper, int from, int step) {
            if (visitCount >= MAX_VISITS || paper < 0 || paper >= papers.size()) {
                return NONE;
            }
            papers.get(paper).metBy = pass;
            int at = visitCount;
            visitPaper[at] = paper;
            visitFrom[at] = from;
            visitStep[at] = step;
            visitDepth[at] = from == NONE ? 0 : visitDepth[from] + 1;
            visitMember[at] = NONE;
            visitItem[at] = 0;
            visitCount++;
            return at;
        }

        /** The visit to go on with: a new one, this one with its next paper, or the one before it. */
        private int goOn(int at) {
            Paper paper = papers.get(visitPaper[at]);
            int member = visitMember[at];
            if (member >= paper.kind.members.size()) {
                return visitFrom[at];
            }
            int item = visitItem[at];
            if (!paper.kind.members.get(member).goes || item >= paper.countTargets(member)) {
                visitMember[at] = member + 1;
                visitItem[at] = 0;
                return at;
            }
            visitItem[at] = item + 1;
            int other = paper.target(member, item);
            if (other < 0 || other >= papers.size()) {
                return at;
            }
            if (papers.get(other).metBy == pass) {
                keepCut(other);
                return at;
            }
            int next = enter(other, at, member * 100 + item);
            return next == NONE ? at : next;
        }

        private void keepCut(int paper) {
            if (cutCount < MAX_CUTS) {
                cuts[cutCount] = paper;
                cutCount++;
            }
        }

        private void askPaper(int at) {
            Kind kind = papers.get(visitPaper[at]).kind;
            for (int i = 0; i < kind.line.length; i++) {
                Kind above = book.kindAt(kind.line[i]);
                if (above != null) {
                    askUses(above.star.held, at, NONE);
                }
            }
            for (int m = 0; m < kind.members.size(); m++) {
                askUses(kind.members.get(m).held, at, m);
            }
        }

        private void askUses(ArrayList<Use> uses, int at, int member) {
            for (int i = 0; i < uses.size() && askings < MAX_ASKINGS; i++) {
                Use use = uses.get(i);
                if (use.code != GO && (mask & (1 << use.group)) != 0) {
                    askings++;
                    if (use.code >= OWN) {
                        askOwn(use, at, member);
                    } else if (!holds(use, papers.get(visitPaper[at]), member)) {
                        tell(use, at, member, 0);
                    }
                }
            }
        }

        private void askOwn(Use use, int at, int member) {
            Rule rule = book.ruleAt(use.code - OWN);
            if (rule == null || !book.isReady(rule)) {
                return;
            }
            rule.asked++;
            Paper paper = papers.get(visitPaper[at]);
            if (!paper.has(member)) {
                return;
            }
            boolean done = book.judge(rule, paper.valueOf(member), use);
            if (!done || rule.left == 0) {
                tell(use, at, member, done ? 0 : 1);
            }
        }

        private boolean holds(Use use, Paper paper, int member) {
            if (use.code == NEED) {
                return paper.typeOf(member) == TYPE_LIST ? paper.valueOf(member) > 0 : paper.has(member);
            }
            if (use.code == BELOW) {
                int x = use.read(0);
                int y = use.read(1);
                return !paper.has(x) || !paper.has(y) || paper.valueOf(x) < paper.valueOf(y);
            }
            if (use.code == TOTAL) {
                int z = use.read(2);
                return !paper.has(z) || paper.valueOf(z) == sum(paper, use.read(0), use.read(1));
            }
            return !paper.has(member) || use.lets(paper.valueOf(member));
        }

        private long sum(Paper paper, int list, int member) {
            long sum = 0;
            int count = Math.min(paper.valueOf(list), MAX_ITEMS);
            for (int i = 0; i < count; i++) {
                int other = paper.target(list, i);
                if (other >= 0 && other < papers.size()) {
                    sum += papers.get(other).valueOf(member);
                }
            }
            return sum;
        }

        private void tell(Use use, int at, int member, int cause) {
            errorTold = errorTold || use.severity == 0;
            if (told < MAX_FOUNDS) {
                if (told >= founds.size()) {
                    founds.add(new Found());
                }
                Found found = founds.get(told);
                Paper paper = papers.get(visitPaper[at]);
                found.use = use;
                found.visit = at;
                found.paper = visitPaper[at];
                found.member = member;
                found.cause = cause;
                found.shown = paper.shown(member);
                found.proposed = use.proposes();
                found.proposal = found.proposed ? use.nearest(found.shown) : 0;
                found.first = found.proposed && paper.isFirstProposal(member, serial);
            }
            told++;
        }

        Found foundAt(int k) {
            return k >= 0 && k < told && k < founds.size() ? founds.get(k) : null;
        }

        int wayLength(Found found) {
            return visitDepth[found.visit];
        }

        /** Ways are kept as visits that tell where they came from, so a step is looked for backwards. */
        int wayStep(Found found, int i) {
            int at = found.visit;
            int depth = visitDepth[at];
            if (i < 0 || i >= depth || i >= MAX_WAY) {
                return NONE;
            }
            for (int d = depth; d > i + 1 && visitFrom[at] != NONE; d--) {
                at = visitFrom[at];
            }
            return visitStep[at];
        }

        int setProposals() {
            if (groupsGone == NONE || corrected) {
                return NONE;
            }
            corrected = true;
            int count = 0;
            for (int k = 0; k < told && k < founds.size(); k++) {
                Found found = founds.get(k);
                if (found.first && found.paper >= 0 && found.paper < papers.size()) {
                    Paper paper = papers.get(found.paper);
                    if (!book.isRead(paper.kind, found.member)) {
                        paper.put(found.member, found.proposal, true);
                        count++;
                    }
                }
            }
            return count;
        }
    }
}
