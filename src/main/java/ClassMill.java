import java.util.Arrays;

/** A small Java that proves what it makes; ../shared/DOC.md tells what each call must answer. */
public final class ClassMill {
    public static final int NONE = -1;

    private static final int TAPE_MOST = 6000;
    private static final int FED_AT_ONCE = 20;

    private final byte[] tape;
    private int taped;
    private final Text text;
    private final Syntax syntax;
    private final Heads heads;
    private final Bodies bodies;
    private final byte[][] images;
    private int imageCount;
    private final Space space;
    private final Verifier verifier;
    private final Machine machine;

    public ClassMill() {
        tape = new byte[TAPE_MOST];
        text = new Text();
        heads = new Heads(text);
        syntax = new Syntax(text, heads);
        bodies = new Bodies(text, heads);
        images = new byte[Heads.CLASSES_MOST][];
        space = new Space();
        verifier = new Verifier(space);
        machine = new Machine(space);
    }

    public int feed(int a, int b, int c, int d, int e) {
        if (taped + FED_AT_ONCE > TAPE_MOST) {
            return NONE;
        }
        putNumber(a);
        putNumber(b);
        putNumber(c);
        putNumber(d);
        putNumber(e);
        return taped;
    }

    private void putNumber(int number) {
        for (int shift = 24; shift >= 0; shift -= 8) {
            if (taped < tape.length) {
                tape[taped] = (byte) (number >> shift);
                taped++;
            }
        }
    }

    public boolean end(int n) {
        if (n < 0 || n > taped) {
            return false;
        }
        taped = n;
        return true;
    }

    public int compile() {
        int size = taped;
        taped = 0;
        if (size > Text.MOST) {
            text.refuse(Text.FAULT_NONE, Text.MOST);
            return NONE;
        }
        text.scan(tape, size);
        heads.forget();
        syntax.readProgram();
        heads.readClasses();
        heads.readMembers();
        heads.checkOverrides();
        heads.nameKinds();
        bodies.beginProgram();
        for (int k = 0; k < heads.classes && text.fault == 0; k++) {
            bodies.beginClass(k);
            for (int m = 0; m < heads.methodsOf(k) && text.fault == 0; m++) {
                bodies.makeMethod(k, m);
            }
            bodies.closeClass(k);
        }
        bodies.closeProgram();
        return text.fault == 0 ? takeImages() : NONE;
    }

    private int takeImages() {
        imageCount = heads.classes;
        for (int k = 0; k < imageCount && k < images.length; k++) {
            images[k] = bodies.made(k);
        }
        return imageCount;
    }

    public int fault(int what) {
        if (what == 0) {
            return text.fault;
        }
        return what == 1 && text.fault != 0 ? text.place : NONE;
    }

    private byte[] imageOf(int k) {
        return k >= 0 && k < imageCount && k < images.length ? images[k] : null;
    }

    public int image(int k, int i) {
        byte[] bytes = imageOf(k);
        if (bytes == null) {
            return NONE;
        }
        if (i == NONE) {
            return bytes.length;
        }
        return i >= 0 && i < bytes.length ? bytes[i] & 255 : NONE;
    }

    public int load() {
        int answer = space.bring(tape, taped);
        taped = 0;
        if (answer >= 0) {
            machine.forget();
        }
        return answer;
    }

    public int keep(int k) {
        byte[] bytes = imageOf(k);
        int answer = bytes == null ? NONE : space.bring(bytes, bytes.length);
        if (answer >= 0) {
            machine.forget();
        }
        return answer;
    }

    public boolean patch(int c, int i, int v) {
        boolean done = space.change(c, i, v);
        if (done) {
            machine.forget();
        }
        return done;
    }

    public void clear() {
        space.forget();
        machine.forget();
    }

    public int verify() {
        int number = verifier.proveHeads();
        if (number == 0) {
            number = verifier.proveMethods();
        }
        space.verified = number == 0;
        if (space.verified) {
            space.linkAll();
        }
        return number;
    }

    public int where(int what) {
        switch (what) {
            case 0:
                return verifier.toldClass;
            case 1:
                return verifier.toldMethod;
            case 2:
                return verifier.toldPlace;
            default:
                return NONE;
        }
    }

    public boolean start(int c, int m) {
        Image image = space.imageOf(c);
        if (!space.verified || image == null || m < 0 || m >= image.methods) {
            return false;
        }
        if (image.of(m, Image.FIXED) == 0 || image.of(m, Image.PARAMETERS) != 0) {
            return false;
        }
        machine.beginRun(c, m);
        return true;
    }

    public int run(int n) {
        return n < 1 || n > Machine.STEPS_MOST ? NONE : machine.go(n);
    }

    public int look(int what) {
        switch (what) {
            case 11:
                return space.count;
            case 12:
                return space.verified ? 1 : 0;
            case 13:
                return taped;
            default:
                return what >= 7 && what <= 10 ? machine.tellTop(what) : machine.tell(what);
        }
    }

    public int out(int i) {
        return machine.printedAt(i);
    }

    public int type(int c, int what) {
        if (c < 0 || c >= Kin.BUILT_IN + space.count) {
            return NONE;
        }
        if (what == 0) {
            return space.kin.above(c);
        }
        Image image = space.imageOf(c);
        if (image == null) {
            return what >= 1 && what <= 4 ? 0 : NONE;
        }
        switch (what) {
            case 1:
                return image.fields;
            case 2:
                return image.methods;
            case 3:
                return image.size;
            case 4:
                return image.constants;
            default:
                return NONE;
        }
    }

    /** The TYPES as numbers (classes by their own, arrays as look(1) tells them), and which fits which. */
    private static final class Kin {
        static final int CLASSES = 16;
        static final int BUILT_IN = 8;
        static final int OBJECT = 0;
        static final int FAULT = 1;
        static final int ARRAY = 100;
        static final int INTS = 200;
        static final int NULL = 300;
        static final int INT = 301;
        static final int BOOLEAN = 302;
        static final int VOID = 303;
        static final int TOP = 304;
        static final int UNKNOWN = 305;

        private final int[] above = new int[CLASSES];
        private final boolean[] under = new boolean[CLASSES * CLASSES];

        Kin() {
            forget();
        }

        void forget() {
            Arrays.fill(above, NONE);
            for (int c = 1; c < BUILT_IN; c++) {
                above[c] = c == FAULT ? OBJECT : FAULT;
            }
            settle();
        }

        int above(int c) {
            return isClass(c) ? above[c] : NONE;
        }

        void setAbove(int c, int what) {
            if (isClass(c)) {
                above[c] = what;
            }
        }

        /** Notes of each two classes whether the one extends the other, so that fits has only to look. */
        void settle() {
            for (int a = 0; a < CLASSES; a++) {
                for (int b = 0; b < CLASSES; b++) {
                    under[a * CLASSES + b] = false;
                }
                int c = a;
                for (int turn = 0; turn < CLASSES && c >= 0 && c < CLASSES; turn++) {
                    under[a * CLASSES + c] = true;
                    c = above[c];
                }
            }
        }

        static boolean isClass(int type) {
            return type >= 0 && type < CLASSES;
        }

        static boolean isArray(int type) {
            return type >= ARRAY && type <= INTS;
        }

        static boolean isReference(int type) {
            return type == NULL || (type >= 0 && type <= INTS);
        }

        static boolean isNumber(int type) {
            return type == INT || type == BOOLEAN;
        }

        static int elementOf(int array) {
            if (array == INTS) {
                return INT;
            }
            return array >= ARRAY && array < INTS ? array - ARRAY : UNKNOWN;
        }

        boolean fits(int a, int b) {
            if (a == b) {
                return true;
            }
            if (a == NULL) {
                return b >= 0 && b <= INTS;
            }
            if (a >= 0 && a < CLASSES) {
                return b >= 0 && b < CLASSES && under[a * CLASSES + b];
            }
            if (b == OBJECT) {
                return a >= ARRAY && a <= INTS;
            }
            boolean ofClasses = a >= ARRAY && a < ARRAY + CLASSES && b >= ARRAY && b < ARRAY + CLASSES;
            return ofClasses && under[(a - ARRAY) * CLASSES + b - ARRAY];
        }

        boolean oneFits(int a, int b) {
            return fits(a, b) || fits(b, a);
        }

        /** Whether going on by extends comes to an end, be it at a class that is not there. */
        boolean endsAbove(int from) {
            int c = from;
            for (int turn = 0; turn <= CLASSES && c >= 0 && c < CLASSES; turn++) {
                c = above[c];
            }
            return c == NONE;
        }
    }

    /** A TEXT as a row of tokens, its names numbered, with a place to read at and the first FAULT told of it. */
    private static final class Text {
        static final int MOST = 3000;

        static final int FAULT_NONE = 1;
        static final int FAULT_PLACE = 2;
        static final int FAULT_DEEP = 3;
        static final int TWICE = 4;
        static final int UNKNOWN = 5;
        static final int TYPE = 6;
        static final int AWAY = 7;
        static final int ENDS = 8;
        static final int DEAD = 9;
        static final int OTHER = 10;
        static final int MUCH = 11;

        static final int END = 0;
        static final int BAD = 1;
        static final int NAME = 2;
        static final int NUMBER = 3;

        static final int BOOLEAN = 10;
        static final int BREAK = 11;
        static final int CATCH = 12;
        static final int CLASS = 13;
        static final int CONTINUE = 14;
        static final int ELSE = 15;
        static final int EXTENDS = 16;
        static final int FALSE = 17;
        static final int IF = 18;
        static final int INSTANCEOF = 19;
        static final int INT = 20;
        static final int NEW = 21;
        static final int NULL = 22;
        static final int PRINT = 23;
        static final int RETURN = 24;
        static final int STATIC = 25;
        static final int THIS = 26;
        static final int THROW = 27;
        static final int TRUE = 28;
        static final int TRY = 29;
        static final int VOID = 30;
        static final int WHILE = 31;

        static final int OPEN = 40;
        static final int CLOSE = 41;
        static final int OPEN_BLOCK = 42;
        static final int CLOSE_BLOCK = 43;
        static final int OPEN_INDEX = 44;
        static final int CLOSE_INDEX = 45;
        static final int SEMICOLON = 46;
        static final int COMMA = 47;
        static final int POINT = 48;
        static final int QUESTION = 49;
        static final int COLON = 50;
        static final int ASSIGN = 51;
        static final int EQUAL = 52;
        static final int UNEQUAL = 53;
        static final int LESS = 54;
        static final int AT_MOST = 55;
        static final int MORE = 56;
        static final int AT_LEAST = 57;
        static final int LEFT = 58;
        static final int RIGHT = 59;
        static final int RIGHT_BARE = 60;
        static final int PLUS = 61;
        static final int MINUS = 62;
        static final int TIMES = 63;
        static final int OVER = 64;
        static final int REST = 65;
        static final int BIT_AND = 66;
        static final int AND = 67;
        static final int BIT_OR = 68;
        static final int OR = 69;
        static final int BIT_XOR = 70;
        static final int NOT = 71;
        static final int TILDE = 72;

        static final int LEVELS = 10;
        static final int RELATION_LEVEL = 7;

        /** The classes 0 to 7 first, so that their names' numbers are theirs; then length; then the WORDS. */
        private static final String KNOWN = "Object Fault NullFault IndexFault ArithFault CastFault SizeFault StoreFault length boolean break catch class continue else extends false if instanceof int new null print return static this throw true try void while [I ";
        static final int LENGTH_NAME = 8;
        private static final int FIRST_WORD_NAME = 9;
        static final int INTS_NAME = 31;
        private static final int KNOWN_NAMES = 32;
        private static final int KINDS_MOST = Kin.CLASSES + 2 * Heads.CLASSES_MOST * Heads.MEMBERS_MOST;
        /** A name takes two bytes of the TEXT at least, with what parts it from the next; then come the kinds. */
        static final int NAMES_MOST = KNOWN_NAMES + MOST / 2 + KINDS_MOST;
        /** No kind is longer than the head in the TEXT that it is of; those of the classes 0 to 7 are known, too. */
        private static final int LETTERS_MOST = 400 + 2 * MOST;
        private static final int NAME_LONGEST = 12;
        private static final long GREATEST = 2147483647L;
        private static final int BUCKETS = 64;

        private final int[] kinds = new int[MOST + 1];
        private final int[] places = new int[MOST + 1];
        private final int[] values = new int[MOST + 1];
        private int count;
        private final byte[] letters = new byte[LETTERS_MOST];
        private final int[] nameAt = new int[NAMES_MOST + 1];
        private final int[] sameBucket = new int[NAMES_MOST];
        private final int[] bucket = new int[BUCKETS];
        private final int[] knownBucket = new int[BUCKETS];
        int names;
        int pos;
        int fault;
        int place = NONE;

        Text() {
            Arrays.fill(bucket, NONE);
            int letter = 0;
            for (int i = 0; i < KNOWN.length(); i++) {
                if (KNOWN.charAt(i) == ' ') {
                    closeName(letter);
                } else {
                    letters[letter] = (byte) KNOWN.charAt(i);
                    letter++;
                }
            }
            System.arraycopy(bucket, 0, knownBucket, 0, BUCKETS);
        }

        private void closeName(int letterEnd) {
            int from = nameAt[names];
            int b = bucketOf(letters, from, letterEnd - from);
            sameBucket[names] = bucket[b];
            bucket[b] = names;
            names++;
            nameAt[names] = letterEnd;
        }

        private static int bucketOf(byte[] row, int from, int length) {
            return (row[from] * 5 + row[from + length - 1] * 3 + length) & (BUCKETS - 1);
        }

        void refuse(int what, int where) {
            fault = what;
            place = where;
        }

        void tell(int what, int token) {
            if (fault == 0 && token >= 0 && token < count) {
                fault = what;
                place = places[token];
            }
        }

        /** The token at the reading place can't stand there, or none begins so. */
        void tellHere(int what) {
            if (fault == 0 && pos >= 0 && pos < count) {
                fault = kinds[pos] == BAD ? FAULT_NONE : what;
                place = places[pos];
            }
        }

        int kindAt(int token) {
            return token >= 0 && token < count ? kinds[token] : END;
        }

        int valueAt(int token) {
            return token >= 0 && token < count ? values[token] : 0;
        }

        /** The kind at the reading place; behind a FAULT it is END, so that every reader comes to its own end. */
        int kind() {
            return fault == 0 && pos >= 0 && pos < count ? kinds[pos] : END;
        }

        int nameLength(int name) {
            return name >= 0 && name < names ? nameAt[name + 1] - nameAt[name] : 0;
        }

        void copyName(int name, byte[] row, int into) {
            int length = nameLength(name);
            if (into >= 0 && into + length <= row.length && length > 0) {
                System.arraycopy(letters, nameAt[name], row, into, length);
            }
        }

        void scan(byte[] tape, int size) {
            names = KNOWN_NAMES;
            System.arraycopy(knownBucket, 0, bucket, 0, BUCKETS);
            count = 0;
            pos = 0;
            fault = 0;
            place = NONE;
            int at = behindBlanks(tape, size, 0);
            for (int turn = 0; turn < MOST && at < size; turn++) {
                int length = scanToken(tape, size, at);
                if (length == 0) {
                    addToken(BAD, at, 0);
                    return;
                }
                at = behindBlanks(tape, size, at + length);
            }
            addToken(END, size, 0);
        }

        private void addToken(int kind, int at, int value) {
            if (count < kinds.length) {
                kinds[count] = kind;
                places[count] = at;
                values[count] = value;
                count++;
            }
        }

        private static int behindBlanks(byte[] tape, int size, int from) {
            int at = from;
            boolean remark = false;
            while (at < size) {
                int c = tape[at];
                if (c == '/' && at + 1 < size && tape[at + 1] == '/') {
                    remark = true;
                } else if (c == 10) {
                    remark = false;
                } else if (c != ' ' && !remark) {
                    return at;
                }
                at++;
            }
            return at;
        }

        private int scanToken(byte[] tape, int size, int at) {
            int c = tape[at];
            if (isLetter(c)) {
                return scanWord(tape, size, at);
            }
            if (isDigit(c)) {
                return scanNumber(tape, size, at);
            }
            int behind = at + 1 < size ? tape[at + 1] : 0;
            boolean bare = behind == '>' && at + 2 < size && tape[at + 2] == '>';
            int kind = c == '>' && bare ? RIGHT_BARE : signOf(c, behind);
            if (kind != 0) {
                addToken(kind, at, 0);
            }
            return signLength(kind);
        }

        static boolean isLetter(int c) {
            return (c >= 'a' && c <= 'z') || (c >= 'A' && c <= 'Z');
        }

        static boolean isDigit(int c) {
            return c >= '0' && c <= '9';
        }

        static boolean isNamePart(int c) {
            return isLetter(c) || isDigit(c) || c == '_';
        }

        /** Whether the bytes from .. stop are a NAME (a WORD, too). */
        static boolean isName(byte[] row, int from, int stop) {
            boolean all = from >= 0 && from < stop && stop <= row.length && stop - from <= NAME_LONGEST;
            for (int i = from; i < stop && all; i++) {
                int c = row[i];
                boolean letter = (c >= 'a' && c <= 'z') || (c >= 'A' && c <= 'Z');
                all = letter || (i > from && ((c >= '0' && c <= '9') || c == '_'));
            }
            return all;
        }

        private int scanWord(byte[] tape, int size, int at) {
            int stop = at;
            while (stop < size && isNamePart(tape[stop])) {
                stop++;
            }
            int length = stop - at;
            if (length > NAME_LONGEST) {
                return 0;
            }
            int name = nameOf(tape, at, length);
            boolean word = name >= FIRST_WORD_NAME && name < INTS_NAME;
            addToken(word ? BOOLEAN + name - FIRST_WORD_NAME : NAME, at, name);
            return length;
        }

        /** The number of a name, or of a kind, which is given one when it first comes. */
        int nameOf(byte[] tape, int at, int length) {
            if (length < 1 || at < 0 || at + length > tape.length) {
                return 0;
            }
            int name = bucket[bucketOf(tape, at, length)];
            for (int turn = 0; turn < NAMES_MOST && name != NONE; turn++) {
                if (isNamed(name, tape, at, length)) {
                    return name;
                }
                name = sameBucket[name];
            }
            int letter = nameAt[names];
            if (names >= NAMES_MOST || letter + length > letters.length) {
                return 0;
            }
            System.arraycopy(tape, at, letters, letter, length);
            closeName(letter + length);
            return names - 1;
        }

        private boolean isNamed(int name, byte[] row, int at, int length) {
            int from = nameAt[name];
            if (nameAt[name + 1] - from != length) {
                return false;
            }
            for (int i = 0; i < length; i++) {
                if (letters[from + i] != row[at + i]) {
                    return false;
                }
            }
            return true;
        }

        private int scanNumber(byte[] tape, int size, int at) {
            long value = 0;
            int stop = at;
            while (stop < size && isDigit(tape[stop])) {
                value = Math.min(value * 10 + tape[stop] - '0', GREATEST + 1);
                stop++;
            }
            boolean zeroAhead = tape[at] == '0' && stop > at + 1;
            boolean lettersBehind = stop < size && isNamePart(tape[stop]);
            if (zeroAhead || lettersBehind || value > GREATEST) {
                return 0;
            }
            addToken(NUMBER, at, (int) value);
            return stop - at;
        }

        private static int signOf(int c, int behind) {
            switch (c) {
                case '=':
                    return behind == '=' ? EQUAL : ASSIGN;
                case '!':
                    return behind == '=' ? UNEQUAL : NOT;
                case '<':
                    return behind == '=' ? AT_MOST : behind == '<' ? LEFT : LESS;
                case '>':
                    return behind == '=' ? AT_LEAST : behind == '>' ? RIGHT : MORE;
                case '&':
                    return behind == '&' ? AND : BIT_AND;
                case '|':
                    return behind == '|' ? OR : BIT_OR;
                default:
                    return plainSignOf(c);
            }
        }

        private static int plainSignOf(int c) {
            switch (c) {
                case '(':
                    return OPEN;
                case ')':
                    return CLOSE;
                case '{':
                    return OPEN_BLOCK;
                case '}':
                    return CLOSE_BLOCK;
                case '[':
                    return OPEN_INDEX;
                case ']':
                    return CLOSE_INDEX;
                case ';':
                    return SEMICOLON;
                case ',':
                    return COMMA;
                case '.':
                    return POINT;
                case '?':
                    return QUESTION;
                case ':':
                    return COLON;
                case '+':
                    return PLUS;
                case '-':
                    return MINUS;
                case '*':
                    return TIMES;
                case '/':
                    return OVER;
                case '%':
                    return REST;
                case '^':
                    return BIT_XOR;
                case '~':
                    return TILDE;
                default:
                    return 0;
            }
        }

        private static int signLength(int kind) {
            switch (kind) {
                case 0:
                    return 0;
                case RIGHT_BARE:
                    return 3;
                case EQUAL:
                case UNEQUAL:
                case AT_MOST:
                case AT_LEAST:
                case LEFT:
                case RIGHT:
                case AND:
                case OR:
                    return 2;
                default:
                    return 1;
            }
        }

        /** How tightly a sign binds, 1 the loosest; 0 for what stands between no U's. */
        static int level(int kind) {
            switch (kind) {
                case OR:
                    return 1;
                case AND:
                    return 2;
                case BIT_OR:
                    return 3;
                case BIT_XOR:
                    return 4;
                case BIT_AND:
                    return 5;
                case EQUAL:
                case UNEQUAL:
                    return 6;
                case LESS:
                case AT_MOST:
                case MORE:
                case AT_LEAST:
                case INSTANCEOF:
                    return RELATION_LEVEL;
                case LEFT:
                case RIGHT:
                case RIGHT_BARE:
                    return 8;
                case PLUS:
                case MINUS:
                    return 9;
                case TIMES:
                case OVER:
                case REST:
                    return 10;
                default:
                    return 0;
            }
        }

        boolean beginsVariable() {
            int kind = kind();
            if (kind != NAME) {
                return kind == INT || kind == BOOLEAN;
            }
            int behind = kindAt(pos + 1);
            return behind == NAME || (behind == OPEN_INDEX && kindAt(pos + 2) == CLOSE_INDEX);
        }

        boolean beginsCast() {
            if (kind() != OPEN || kindAt(pos + 1) != NAME || kindAt(pos + 2) != CLOSE) {
                return false;
            }
            switch (kindAt(pos + 3)) {
                case NAME:
                case NUMBER:
                case OPEN:
                case NOT:
                case TILDE:
                case THIS:
                case NEW:
                case NULL:
                case TRUE:
                case FALSE:
                    return true;
                default:
                    return false;
            }
        }

        boolean isWhileTrue() {
            return kindAt(pos + 1) == OPEN && kindAt(pos + 2) == TRUE && kindAt(pos + 3) == CLOSE;
        }
    }

    /** Reads a TEXT by the grammar alone: FAULTS 1 to 3, and where each CLASS is. */
    private static final class Syntax {
        static final int DEEPEST = 40;

        private final Text text;
        private final Heads heads;

        Syntax(Text text, Heads heads) {
            this.text = text;
            this.heads = heads;
        }

        void readProgram() {
            for (int k = 0; k < Text.MOST && text.fault == 0 && (k == 0 || text.kind() != Text.END); k++) {
                readClass();
            }
        }

        private void need(int kind) {
            if (text.kind() == kind) {
                text.pos++;
            } else {
                text.tellHere(Text.FAULT_PLACE);
            }
        }

        private boolean accept(int kind) {
            if (text.kind() != kind) {
                return false;
            }
            text.pos++;
            return true;
        }

        private boolean tooDeep(int depth) {
            if (depth >= DEEPEST) {
                text.tellHere(Text.FAULT_DEEP);
            }
            return text.fault != 0;
        }

        private void readClass() {
            need(Text.CLASS);
            heads.addClass(text.pos);
            need(Text.NAME);
            if (accept(Text.EXTENDS)) {
                need(Text.NAME);
            }
            need(Text.OPEN_BLOCK);
            for (int m = 0; m < Text.MOST && text.fault == 0 && text.kind() != Text.CLOSE_BLOCK; m++) {
                readMember();
            }
            need(Text.CLOSE_BLOCK);
        }

        private void readMember() {
            boolean method = accept(Text.STATIC);
            if (accept(Text.VOID)) {
                method = true;
            } else {
                readType();
            }
            need(Text.NAME);
            if (!method && accept(Text.SEMICOLON)) {
                return;
            }
            need(Text.OPEN);
            if (text.kind() != Text.CLOSE) {
                readParameters();
            }
            need(Text.CLOSE);
            readBlock(0);
        }

        private void readParameters() {
            boolean more = true;
            for (int p = 0; p < Text.MOST && more; p++) {
                readType();
                need(Text.NAME);
                more = accept(Text.COMMA);
            }
        }

        private void readType() {
            if (accept(Text.BOOLEAN)) {
                return;
            }
            if (!accept(Text.INT)) {
                need(Text.NAME);
            }
            if (accept(Text.OPEN_INDEX)) {
                need(Text.CLOSE_INDEX);
            }
        }

        private void readBlock(int depth) {
            need(Text.OPEN_BLOCK);
            for (int s = 0; s < Text.MOST && text.fault == 0 && text.kind() != Text.CLOSE_BLOCK; s++) {
                readStatement(depth);
            }
            need(Text.CLOSE_BLOCK);
        }

        private void readStatement(int depth) {
            if (tooDeep(depth)) {
                return;
            }
            switch (text.kind()) {
                case Text.OPEN_BLOCK:
                    readBlock(depth + 1);
                    break;
                case Text.IF:
                    readCondition(depth + 1);
                    readStatement(depth + 1);
                    if (accept(Text.ELSE)) {
                        readStatement(depth + 1);
                    }
                    break;
                case Text.WHILE:
                    readCondition(depth + 1);
                    readStatement(depth + 1);
                    break;
                case Text.TRY:
                    readTry(depth + 1);
                    break;
                default:
                    if (text.beginsVariable()) {
                        readVariable(depth + 1);
                    } else {
                        readPlain(depth + 1);
                    }
                    need(Text.SEMICOLON);
                    break;
            }
        }

        private void readVariable(int depth) {
            readType();
            need(Text.NAME);
            need(Text.ASSIGN);
            readValue(depth);
        }

        private void readCondition(int depth) {
            text.pos++;
            need(Text.OPEN);
            readValue(depth);
            need(Text.CLOSE);
        }

        private void readTry(int depth) {
            text.pos++;
            readBlock(depth);
            need(Text.CATCH);
            need(Text.OPEN);
            need(Text.NAME);
            need(Text.NAME);
            need(Text.CLOSE);
            readBlock(depth);
        }

        /** What ends with a semicolon, without it. */
        private void readPlain(int depth) {
            switch (text.kind()) {
                case Text.BREAK:
                case Text.CONTINUE:
                    text.pos++;
                    break;
                case Text.RETURN:
                    text.pos++;
                    if (text.kind() != Text.SEMICOLON) {
                        readValue(depth);
                    }
                    break;
                case Text.THROW:
                    text.pos++;
                    readValue(depth);
                    break;
                case Text.PRINT:
                    readCondition(depth);
                    break;
                default:
                    readValue(depth);
                    if (accept(Text.ASSIGN)) {
                        readValue(depth);
                    }
                    break;
            }
        }

        private void readValue(int depth) {
            if (tooDeep(depth)) {
                return;
            }
            boolean anySign = true;
            readUnary(depth + 1);
            for (int turn = 0; turn < Text.MOST && binaryAhead(anySign); turn++) {
                anySign = !accept(Text.INSTANCEOF);
                if (anySign) {
                    text.pos++;
                    readUnary(depth + 1);
                } else {
                    need(Text.NAME);
                }
            }
            if (accept(Text.QUESTION)) {
                readValue(depth + 1);
                need(Text.COLON);
                readValue(depth + 1);
            }
        }

        /** Behind instanceof NAME no sign can stand that binds tighter, for it would need a U to its left. */
        private boolean binaryAhead(boolean anySign) {
            int level = Text.level(text.kind());
            return level > 0 && (anySign || level <= Text.RELATION_LEVEL);
        }

        private void readUnary(int depth) {
            int kind = text.kind();
            boolean cast = text.beginsCast();
            if (!cast && kind != Text.MINUS && kind != Text.NOT && kind != Text.TILDE) {
                readPrimary(depth);
                return;
            }
            if (tooDeep(depth)) {
                return;
            }
            text.pos += cast ? 3 : 1;
            readUnary(depth + 1);
        }

        private void readPrimary(int depth) {
            switch (text.kind()) {
                case Text.NUMBER:
                case Text.TRUE:
                case Text.FALSE:
                case Text.NULL:
                case Text.THIS:
                    text.pos++;
                    break;
                case Text.NAME:
                    text.pos++;
                    readArguments(depth);
                    break;
                case Text.OPEN:
                    text.pos++;
                    readValue(depth);
                    need(Text.CLOSE);
                    break;
                case Text.NEW:
                    readNew(depth);
                    break;
                default:
                    text.tellHere(Text.FAULT_PLACE);
                    break;
            }
            readBehind(depth);
        }

        private void readBehind(int depth) {
            boolean more = true;
            for (int turn = 0; turn < Text.MOST && more; turn++) {
                if (accept(Text.POINT)) {
                    need(Text.NAME);
                    readArguments(depth);
                } else if (accept(Text.OPEN_INDEX)) {
                    readValue(depth);
                    need(Text.CLOSE_INDEX);
                } else {
                    more = false;
                }
            }
        }

        private void readNew(int depth) {
            text.pos++;
            boolean ints = accept(Text.INT);
            if (!ints) {
                need(Text.NAME);
                if (accept(Text.OPEN)) {
                    need(Text.CLOSE);
                    return;
                }
            }
            need(Text.OPEN_INDEX);
            readValue(depth);
            need(Text.CLOSE_INDEX);
        }

        private void readArguments(int depth) {
            if (!accept(Text.OPEN) || accept(Text.CLOSE)) {
                return;
            }
            boolean more = true;
            for (int turn = 0; turn < Text.MOST && more; turn++) {
                readValue(depth);
                more = accept(Text.COMMA);
            }
            need(Text.CLOSE);
        }
    }

    /** The CLASSES and MEMBERS of a TEXT, and the FAULTS of their heads. */
    private static final class Heads {
        static final int CLASSES_MOST = 8;
        static final int MEMBERS_MOST = 12;
        static final int PARAMETERS_MOST = 6;
        /** One takes nine bytes of the TEXT at least (class K{}); one more may be begun where a FAULT is told. */
        private static final int CLASSES_READ = Text.MOST / 9 + 1;
        private static final int KIND_ROOM = 128;

        private final Text text;
        final Kin kin = new Kin();
        int classes;
        private final int[] classAt = new int[CLASSES_READ];
        private final int[] classOfName = new int[Text.NAMES_MOST];
        private final int[] fields = new int[CLASSES_MOST];
        private final int[] fieldName = new int[CLASSES_MOST * MEMBERS_MOST];
        private final int[] fieldType = new int[CLASSES_MOST * MEMBERS_MOST];
        private final int[] fieldKind = new int[CLASSES_MOST * MEMBERS_MOST];
        private final int[] methods = new int[CLASSES_MOST];
        private final int[] methodAt = new int[CLASSES_MOST * MEMBERS_MOST];
        private final int[] methodBody = new int[CLASSES_MOST * MEMBERS_MOST];
        private final int[] methodType = new int[CLASSES_MOST * MEMBERS_MOST];
        private final boolean[] methodFixed = new boolean[CLASSES_MOST * MEMBERS_MOST];
        private final int[] methodKind = new int[CLASSES_MOST * MEMBERS_MOST];
        private final int[] parameters = new int[CLASSES_MOST * MEMBERS_MOST];
        private final int[] parameterName = new int[CLASSES_MOST * MEMBERS_MOST * PARAMETERS_MOST];
        private final int[] parameterType = new int[CLASSES_MOST * MEMBERS_MOST * PARAMETERS_MOST];
        /** The TEXT's number of each class and, behind them, of each array of a class. */
        private final int[] typeName = new int[Kin.CLASSES * 2];
        private final byte[] kindBytes = new byte[KIND_ROOM];
        private int kindSize;

        Heads(Text text) {
            this.text = text;
        }

        void forget() {
            classes = 0;
            Arrays.fill(fields, 0);
            Arrays.fill(methods, 0);
            kin.forget();
        }

        void addClass(int nameToken) {
            if (classes < classAt.length) {
                classAt[classes] = nameToken;
                classes++;
            }
        }

        void readClasses() {
            if (text.fault != 0) {
                return;
            }
            nameClasses();
            for (int k = 0; k < classes && text.fault == 0; k++) {
                checkClassHead(k);
            }
            for (int k = 0; k < classes && text.fault == 0; k++) {
                kin.setAbove(Kin.BUILT_IN + k, classAbove(k));
            }
            kin.settle();
        }

        void readMembers() {
            for (int k = 0; k < classes && text.fault == 0; k++) {
                int at = tokenOfClass(k);
                text.pos = at + (text.kindAt(at + 1) == Text.EXTENDS ? 4 : 2);
                for (int m = 0; m < Text.MOST && text.fault == 0 && text.kind() != Text.CLOSE_BLOCK; m++) {
                    readMember(k);
                }
            }
        }

        void checkOverrides() {
            for (int m = 0; m < methodAt.length && text.fault == 0; m++) {
                if (isMethod(m)) {
                    checkOverride(m);
                }
            }
        }

        /** Kinds are numbered with the names, for a TEXT is a TEXT whatever it tells. */
        void nameKinds() {
            for (int c = 0; c < Kin.BUILT_IN + classes && c < Kin.CLASSES && text.fault == 0; c++) {
                typeName[c] = c < Kin.BUILT_IN ? c : text.valueAt(tokenOfClass(c - Kin.BUILT_IN));
                typeName[Kin.CLASSES + c] = nameKind(Kin.ARRAY + c);
            }
            for (int f = 0; f < fieldName.length && text.fault == 0; f++) {
                if (f % MEMBERS_MOST < fields[f / MEMBERS_MOST]) {
                    fieldKind[f] = nameKind(fieldType[f]);
                }
            }
            for (int m = 0; m < methodAt.length && text.fault == 0; m++) {
                if (isMethod(m)) {
                    methodKind[m] = nameMethodKind(m);
                }
            }
        }

        private int nameKind(int type) {
            kindSize = 0;
            addKind(type);
            return text.nameOf(kindBytes, 0, kindSize);
        }

        private int nameMethodKind(int m) {
            kindSize = 0;
            addKindByte('(');
            for (int p = 0; p < parameters[m]; p++) {
                addKind(parameterType(m, p));
            }
            addKindByte(')');
            addKind(methodType[m]);
            return text.nameOf(kindBytes, 0, kindSize);
        }

        private void addKindByte(int value) {
            if (kindSize < kindBytes.length) {
                kindBytes[kindSize] = (byte) value;
                kindSize++;
            }
        }

        private void addKind(int type) {
            int of = type;
            if (Kin.isArray(type)) {
                addKindByte('[');
                of = Kin.elementOf(type);
            }
            if (!Kin.isClass(of)) {
                addKindByte(of == Kin.INT ? 'I' : of == Kin.BOOLEAN ? 'Z' : 'V');
                return;
            }
            addKindByte('L');
            int name = typeName[of];
            text.copyName(name, kindBytes, kindSize);
            kindSize = Math.min(kindSize + text.nameLength(name), kindBytes.length);
            addKindByte(';');
        }

        private void nameClasses() {
            for (int n = 0; n < text.names && n < classOfName.length; n++) {
                classOfName[n] = n < Kin.BUILT_IN ? n : NONE;
            }
            for (int k = 0; k < classes; k++) {
                int name = text.valueAt(classAt[k]);
                if (name < classOfName.length && classOfName[name] == NONE) {
                    classOfName[name] = Kin.BUILT_IN + k;
                }
            }
        }

        /** The class that the NAME at the token means, or NONE. */
        int classAt(int token) {
            int name = text.valueAt(token);
            return text.kindAt(token) == Text.NAME && name < classOfName.length ? classOfName[name] : NONE;
        }

        /** The number of the TEXT that a CLASS of that type has. */
        int nameOfType(int type) {
            if (type >= 0 && type < Kin.CLASSES) {
                return typeName[type];
            }
            boolean ofClass = type >= Kin.ARRAY && type < Kin.ARRAY + Kin.CLASSES;
            return ofClass ? typeName[Kin.CLASSES + type - Kin.ARRAY] : Text.INTS_NAME;
        }

        int tokenOfClass(int k) {
            return k >= 0 && k < classes ? classAt[k] : NONE;
        }

        private int classAbove(int k) {
            int at = tokenOfClass(k);
            return text.kindAt(at + 1) == Text.EXTENDS ? classAt(at + 2) : Kin.OBJECT;
        }

        private void checkClassHead(int k) {
            int at = classAt[k];
            if (k >= CLASSES_MOST) {
                text.tell(Text.MUCH, at);
            }
            if (classAt(at) != Kin.BUILT_IN + k) {
                text.tell(Text.TWICE, at);
            }
            if (classAbove(k) == NONE) {
                text.tell(Text.UNKNOWN, at + 2);
            }
            if (!endsAbove(k)) {
                text.tell(Text.TYPE, at + 2);
            }
        }

        private boolean endsAbove(int k) {
            int c = Kin.BUILT_IN + k;
            for (int turn = 0; turn <= classes && c >= Kin.BUILT_IN; turn++) {
                c = classAbove(c - Kin.BUILT_IN);
            }
            return c < Kin.BUILT_IN;
        }

        private void readMember(int k) {
            boolean fixed = text.kind() == Text.STATIC;
            if (fixed) {
                text.pos++;
            }
            int type = Kin.VOID;
            if (text.kind() == Text.VOID) {
                text.pos++;
            } else {
                type = readType();
            }
            int at = text.pos;
            text.pos++;
            if (text.kind() == Text.SEMICOLON) {
                text.pos++;
                addField(k, at, type);
            } else if (text.fault == 0) {
                addMethod(k, at, type, fixed);
            }
        }

        /** The TYPE at the reading place, which goes behind it. */
        int readType() {
            int kind = text.kind();
            int at = text.pos;
            text.pos++;
            if (kind == Text.BOOLEAN) {
                return Kin.BOOLEAN;
            }
            int c = kind == Text.NAME ? classAt(at) : Kin.OBJECT;
            if (c == NONE) {
                text.tell(Text.UNKNOWN, at);
                return Kin.UNKNOWN;
            }
            boolean array = text.kind() == Text.OPEN_INDEX;
            if (array) {
                text.pos += 2;
            }
            if (kind == Text.INT) {
                return array ? Kin.INTS : Kin.INT;
            }
            return array ? Kin.ARRAY + c : c;
        }

        private void addField(int k, int at, int type) {
            if (fields[k] >= MEMBERS_MOST) {
                text.tell(Text.MUCH, at);
                return;
            }
            int name = text.valueAt(at);
            if (fieldIn(k, name) != NONE) {
                text.tell(Text.TWICE, at);
            }
            int f = k * MEMBERS_MOST + fields[k];
            fieldName[f] = name;
            fieldType[f] = type;
            fields[k]++;
        }

        private void addMethod(int k, int at, int type, boolean fixed) {
            if (methods[k] >= MEMBERS_MOST) {
                text.tell(Text.MUCH, at);
                return;
            }
            if (methodIn(k, text.valueAt(at)) != NONE) {
                text.tell(Text.TWICE, at);
            }
            int m = k * MEMBERS_MOST + methods[k];
            methodAt[m] = at;
            methodType[m] = type;
            methodFixed[m] = fixed;
            parameters[m] = 0;
            methods[k]++;
            text.pos++;
            for (int p = 0; p < Text.MOST && text.fault == 0 && text.kind() != Text.CLOSE; p++) {
                addParameter(m);
            }
            text.pos++;
            methodBody[m] = text.pos;
            skipBlock();
        }

        private void addParameter(int m) {
            int type = readType();
            int at = text.pos;
            int name = text.valueAt(at);
            int from = m * PARAMETERS_MOST;
            if (parameters[m] >= PARAMETERS_MOST) {
                text.tell(Text.MUCH, at);
                return;
            }
            for (int p = 0; p < parameters[m]; p++) {
                if (parameterName[from + p] == name) {
                    text.tell(Text.TWICE, at);
                }
            }
            parameterName[from + parameters[m]] = name;
            parameterType[from + parameters[m]] = type;
            parameters[m]++;
            text.pos++;
            if (text.kind() == Text.COMMA) {
                text.pos++;
            }
        }

        private void skipBlock() {
            int open = 0;
            boolean inside = true;
            for (int turn = 0; turn < Text.MOST && inside && text.kind() != Text.END; turn++) {
                if (text.kind() == Text.OPEN_BLOCK) {
                    open++;
                } else if (text.kind() == Text.CLOSE_BLOCK) {
                    open--;
                }
                text.pos++;
                inside = open > 0;
            }
        }

        private void checkOverride(int m) {
            int other = methodOf(kin.above(Kin.BUILT_IN + m / MEMBERS_MOST), nameOfMethod(m));
            if (other == NONE) {
                return;
            }
            boolean same = !methodFixed[m] && !methodFixed[other] && methodType[m] == methodType[other]
                && parameters[m] == parameters[other];
            for (int p = 0; p < parameters[m] && same; p++) {
                same = parameterType(m, p) == parameterType(other, p);
            }
            if (!same) {
                text.tell(Text.OTHER, methodAt[m]);
            }
        }

        private int fieldIn(int k, int name) {
            for (int i = 0; i < fields[k]; i++) {
                if (fieldName[k * MEMBERS_MOST + i] == name) {
                    return k * MEMBERS_MOST + i;
                }
            }
            return NONE;
        }

        private int methodIn(int k, int name) {
            for (int i = 0; i < methods[k]; i++) {
                if (text.valueAt(methodAt[k * MEMBERS_MOST + i]) == name) {
                    return k * MEMBERS_MOST + i;
                }
            }
            return NONE;
        }

        private static boolean isOwn(int c) {
            return c >= Kin.BUILT_IN && c < Kin.BUILT_IN + CLASSES_MOST;
        }

        /** The nearest field of that name, going up from class c. */
        int fieldOf(int c, int name) {
            int found = NONE;
            int at = c;
            for (int turn = 0; turn < Kin.CLASSES && isOwn(at) && found == NONE; turn++) {
                found = fieldIn(at - Kin.BUILT_IN, name);
                at = kin.above(at);
            }
            return found;
        }

        int methodOf(int c, int name) {
            int found = NONE;
            int at = c;
            for (int turn = 0; turn < Kin.CLASSES && isOwn(at) && found == NONE; turn++) {
                found = methodIn(at - Kin.BUILT_IN, name);
                at = kin.above(at);
            }
            return found;
        }

        int fieldsOf(int k) {
            return isOwn(Kin.BUILT_IN + k) ? fields[k] : 0;
        }

        int methodsOf(int k) {
            return isOwn(Kin.BUILT_IN + k) ? methods[k] : 0;
        }

        private boolean isMethod(int m) {
            return m >= 0 && m < methodAt.length && m % MEMBERS_MOST < methods[m / MEMBERS_MOST];
        }

        int nameOfField(int f) {
            return f >= 0 && f < fieldName.length ? fieldName[f] : NONE;
        }

        int kindOfField(int f) {
            return f >= 0 && f < fieldKind.length ? fieldKind[f] : NONE;
        }

        int kindOfMethod(int m) {
            return m >= 0 && m < methodKind.length ? methodKind[m] : NONE;
        }

        int typeOfField(int f) {
            return f >= 0 && f < fieldType.length ? fieldType[f] : Kin.UNKNOWN;
        }

        int nameOfMethod(int m) {
            return isMethod(m) ? text.valueAt(methodAt[m]) : NONE;
        }

        int tokenOfMethod(int m) {
            return isMethod(m) ? methodAt[m] : NONE;
        }

        int bodyOf(int m) {
            return isMethod(m) ? methodBody[m] : NONE;
        }

        int resultOf(int m) {
            return isMethod(m) ? methodType[m] : Kin.UNKNOWN;
        }

        boolean isFixed(int m) {
            return isMethod(m) && methodFixed[m];
        }

        int parametersOf(int m) {
            return isMethod(m) ? parameters[m] : 0;
        }

        int parameterType(int m, int p) {
            return p >= 0 && p < parametersOf(m) ? parameterType[m * PARAMETERS_MOST + p] : Kin.UNKNOWN;
        }

        int parameterName(int m, int p) {
            return p >= 0 && p < parametersOf(m) ? parameterName[m * PARAMETERS_MOST + p] : NONE;
        }
    }

    /** The IMAGE that grows: its constants, each made when first wanted, and what stands behind them. */
    private static final class Pool {
        private static final int IMAGE_MOST = 6000;
        private static final int CONSTANTS_MOST = 200;
        private static final int MAGIC_BYTES = 3;

        private final Text text;
        private final Heads heads;
        private final int[] tags = new int[CONSTANTS_MOST + 1];
        private final int[] values = new int[CONSTANTS_MOST + 1];
        private int count;
        private boolean full;
        private final byte[] body = new byte[IMAGE_MOST];
        private int bodySize;

        Pool(Text text, Heads heads) {
            this.text = text;
            this.heads = heads;
        }

        void beginClass(int k) {
            count = 0;
            full = false;
            bodySize = 0;
            int c = Kin.BUILT_IN + k;
            put(classOf(c));
            put(classOf(heads.kin.above(c)));
            put(heads.fieldsOf(k));
            for (int i = 0; i < heads.fieldsOf(k); i++) {
                int f = k * Heads.MEMBERS_MOST + i;
                put(constant(Image.TEXT, heads.nameOfField(f)));
                put(constant(Image.TEXT, heads.kindOfField(f)));
            }
            put(heads.methodsOf(k));
        }

        void beginMethod(int m) {
            put(heads.isFixed(m) ? 1 : 0);
            put(constant(Image.TEXT, heads.nameOfMethod(m)));
            put(constant(Image.TEXT, heads.kindOfMethod(m)));
        }

        void put(int value) {
            if (bodySize < body.length) {
                body[bodySize] = (byte) value;
            }
            bodySize++;
        }

        void putPair(int value) {
            put(value >> 8);
            put(value);
        }

        boolean isTooMuch() {
            return full || imageSize() > IMAGE_MOST;
        }

        private int imageSize() {
            int size = MAGIC_BYTES + bodySize;
            for (int k = 1; k <= count; k++) {
                size += bytesOf(tags[k], values[k]);
            }
            return size;
        }

        byte[] closeImage() {
            if (isTooMuch()) {
                return new byte[0];
            }
            byte[] bytes = new byte[imageSize()];
            bytes[0] = 74;
            bytes[1] = 77;
            bytes[2] = (byte) count;
            int at = MAGIC_BYTES;
            for (int k = 1; k <= count; k++) {
                writeConstant(k, bytes, at);
                at += bytesOf(tags[k], values[k]);
            }
            System.arraycopy(body, 0, bytes, at, bodySize);
            return bytes;
        }

        private int bytesOf(int tag, int value) {
            switch (tag) {
                case Image.TEXT:
                    return 2 + text.nameLength(value);
                case Image.INT:
                    return 5;
                case Image.CLASS:
                    return 2;
                default:
                    return 4;
            }
        }

        private void writeConstant(int k, byte[] bytes, int at) {
            int width = bytesOf(tags[k], values[k]);
            if (at < 0 || at + width > bytes.length) {
                return;
            }
            bytes[at] = (byte) tags[k];
            if (tags[k] == Image.TEXT) {
                bytes[at + 1] = (byte) (width - 2);
                text.copyName(values[k], bytes, at + 2);
                return;
            }
            for (int i = 1; i < width; i++) {
                bytes[at + i] = (byte) (values[k] >> 8 * (width - 1 - i));
            }
        }

        /** The value is a TEXT's name, an INT's number, or the indices of a CLASS or MEMBER as one number. */
        private int constant(int tag, int value) {
            for (int k = 1; k <= count; k++) {
                if (tags[k] == tag && values[k] == value) {
                    return k;
                }
            }
            if (count >= CONSTANTS_MOST) {
                full = true;
                return 0;
            }
            count++;
            tags[count] = tag;
            values[count] = value;
            return count;
        }

        int classOf(int type) {
            return constant(Image.CLASS, constant(Image.TEXT, heads.nameOfType(type)));
        }

        int numberOf(int value) {
            return constant(Image.INT, value);
        }

        int fieldOf(int c, int f) {
            int owner = classOf(c);
            int name = constant(Image.TEXT, heads.nameOfField(f));
            return constant(Image.MEMBER, owner << 16 | name << 8 | constant(Image.TEXT, heads.kindOfField(f)));
        }

        int methodOf(int c, int m) {
            int owner = classOf(c);
            int name = constant(Image.TEXT, heads.nameOfMethod(m));
            return constant(Image.MEMBER, owner << 16 | name << 8 | constant(Image.TEXT, heads.kindOfMethod(m)));
        }
    }

    /** The CODE of one method as it grows, with what is in sight and on the stack where it has come to. */
    private static final class Code {
        static final int IF_NOT = 153;
        static final int IF = 154;
        static final int JUMP = 167;

        private static final int CODE_MOST = 1500;
        private static final int LOCALS_MOST = 30;
        private static final int STACK_MOST = 20;
        private static final int HANDLERS_MOST = 20;
        private static final int FRAMES_MOST = 100;
        /** A parameter takes four bytes of the TEXT at least (K a,) and a variable six, so no TEXT brings more. */
        private static final int SIGHT_ROOM = Text.MOST / 4;
        private static final int ROW = 2 + LOCALS_MOST + STACK_MOST;
        private static final int HANDLER_ROW = 4;

        private final byte[] bytes = new byte[CODE_MOST];
        int length;
        /** What stands above STACK_MOST is only counted: the method is MUCH then, and no FRAME tells of it. */
        private final int[] stack = new int[STACK_MOST];
        private int height;
        private int mostHeight;
        private final int[] localName = new int[SIGHT_ROOM];
        private final int[] localType = new int[SIGHT_ROOM];
        int sight;
        private int mostLocals;
        private final int[] handlers = new int[HANDLERS_MOST * HANDLER_ROW];
        private int handlerCount;
        private final int[] framePlace = new int[FRAMES_MOST];
        private final int[] frameRow = new int[FRAMES_MOST * ROW];
        private final int[] frameOrder = new int[FRAMES_MOST];
        private int frameCount;
        private boolean full;

        void beginMethod() {
            length = 0;
            height = 0;
            mostHeight = 0;
            sight = 0;
            mostLocals = 0;
            handlerCount = 0;
            frameCount = 0;
            full = false;
        }

        boolean isTooMuch() {
            return full || length > CODE_MOST || mostLocals > LOCALS_MOST || mostHeight > STACK_MOST;
        }

        void op(int value) {
            if (length < bytes.length) {
                bytes[length] = (byte) value;
            }
            length++;
        }

        void op(int value, int behind) {
            op(value);
            op(behind);
        }

        void push(int type) {
            if (height < stack.length) {
                stack[height] = type;
            }
            height++;
            mostHeight = Math.max(mostHeight, height);
        }

        void pop(int many) {
            height = Math.max(0, height - many);
        }

        /** A variable at the place behind all that are in sight. */
        int addLocal(int name, int type) {
            int n = sight;
            if (n < localName.length) {
                localName[n] = name;
                localType[n] = type;
            }
            sight++;
            mostLocals = Math.max(mostLocals, sight);
            return n;
        }

        int localOf(int name) {
            for (int n = Math.min(sight, localName.length) - 1; n >= 0; n--) {
                if (localName[n] == name) {
                    return n;
                }
            }
            return NONE;
        }

        int typeOfLocal(int n) {
            return n >= 0 && n < localType.length ? localType[n] : Kin.UNKNOWN;
        }

        void store(int n, int type) {
            op(Kin.isNumber(type) ? 54 : 58, n);
            pop(1);
        }

        /** A jump whose aim is not known yet; told is its place. */
        int jump(int op, int popped) {
            int from = length;
            pop(popped);
            op(op);
            op(0);
            op(0);
            return from;
        }

        void jumpBack(int aim, int sightThere) {
            aimAt(jump(JUMP, 0), aim);
            fillFrame(slotOfFrame(aim), sightThere, 0);
        }

        /** The jump goes to the place where the CODE has come to. */
        void aimHere(int jump) {
            aimAt(jump, length);
            fillFrame(slotOfFrame(length), sight, height);
        }

        private void aimAt(int jump, int aim) {
            int far = aim - jump;
            if (jump >= 0 && jump + 2 < bytes.length) {
                bytes[jump + 1] = (byte) (far >> 8);
                bytes[jump + 2] = (byte) far;
            }
        }

        /** A jump on what is on the stack, made to a boolean there. */
        void truth(int op, int popped) {
            int yes = jump(op, popped);
            push(Kin.BOOLEAN);
            op(3);
            int over = jump(JUMP, 0);
            pop(1);
            aimHere(yes);
            push(Kin.BOOLEAN);
            op(4);
            aimHere(over);
        }

        void addHandler(int from, int to, int c) {
            if (handlerCount >= HANDLERS_MOST) {
                full = true;
            } else {
                int at = handlerCount * HANDLER_ROW;
                handlers[at] = from;
                handlers[at + 1] = to;
                handlers[at + 2] = length;
                handlers[at + 3] = c;
                handlerCount++;
            }
            push(c);
            fillFrame(slotOfFrame(length), sight, height);
        }

        private void fillFrame(int slot, int locals, int onStack) {
            int at = slot * ROW;
            if (slot == NONE || locals > LOCALS_MOST || onStack > STACK_MOST) {
                full = true;
                return;
            }
            frameRow[at] = locals;
            frameRow[at + 1] = onStack;
            System.arraycopy(localType, 0, frameRow, at + 2, locals);
            System.arraycopy(stack, 0, frameRow, at + 2 + locals, onStack);
        }

        /** The row of the FRAME at the place, be it a new one; NONE if there are too many. */
        private int slotOfFrame(int place) {
            int i = frameCount;
            while (i > 0 && framePlace[frameOrder[i - 1]] > place) {
                i--;
            }
            if (i > 0 && framePlace[frameOrder[i - 1]] == place) {
                return frameOrder[i - 1];
            }
            if (frameCount >= FRAMES_MOST) {
                return NONE;
            }
            System.arraycopy(frameOrder, i, frameOrder, i + 1, frameCount - i);
            frameOrder[i] = frameCount;
            framePlace[frameCount] = place;
            frameCount++;
            return frameOrder[i];
        }

        void writeTo(Pool pool) {
            pool.put(mostHeight);
            pool.put(mostLocals);
            pool.putPair(length);
            for (int i = 0; i < length && i < bytes.length; i++) {
                pool.put(bytes[i]);
            }
            pool.put(handlerCount);
            for (int h = 0; h < handlerCount; h++) {
                int at = h * HANDLER_ROW;
                pool.putPair(handlers[at]);
                pool.putPair(handlers[at + 1]);
                pool.putPair(handlers[at + 2]);
                pool.put(pool.classOf(handlers[at + 3]));
            }
            pool.put(frameCount);
            for (int f = 0; f < frameCount; f++) {
                writeFrame(pool, frameOrder[f]);
            }
        }

        private void writeFrame(Pool pool, int slot) {
            int at = slot * ROW;
            int locals = frameRow[at];
            int onStack = frameRow[at + 1];
            pool.putPair(framePlace[slot]);
            pool.put(locals);
            writeTypes(pool, at + 2, locals);
            pool.put(onStack);
            writeTypes(pool, at + 2 + locals, onStack);
        }

        private void writeTypes(Pool pool, int from, int many) {
            for (int i = from; i < from + many && i < frameRow.length; i++) {
                int type = frameRow[i];
                if (Kin.isNumber(type)) {
                    pool.put(1);
                } else if (type == Kin.NULL) {
                    pool.put(2);
                } else {
                    pool.put(3);
                    pool.put(pool.classOf(type));
                }
            }
        }
    }

    /** Reads each E once more, holds it against the RULES and makes its CODE. */
    private static final class Values {
        static final int VALUE = 0;
        static final int CALL = 1;
        static final int VARIABLE = 2;
        static final int FIELD = 3;
        static final int ELEMENT = 4;

        private static final int DEEPEST = Syntax.DEEPEST + 2;
        /** In one E no two signs of a level wait at once. */
        private static final int SIGNS_ROOM = Text.LEVELS * DEEPEST;
        private static final int ANY = 0;
        private static final int BY_VALUE = 1;
        private static final int BY_CLASS = 2;

        private final Text text;
        private final Heads heads;
        private final Kin kin;
        private final Code code;
        private final Pool pool;
        private final int[] signs = new int[SIGNS_ROOM];
        private final int[] signAt = new int[SIGNS_ROOM];
        private final int[] leftFirst = new int[SIGNS_ROOM];
        private final int[] leftType = new int[SIGNS_ROOM];
        private final int[] leftJump = new int[SIGNS_ROOM];
        private int open;
        /** The latest part: what it is (a target ahead of = is not fetched yet), its TYPE, its first token. */
        int form;
        int type;
        int owner;
        int member;
        private int first;
        private int own;
        private boolean fixed;
        /** The first token of the E that is an S alone, in which a call may be void. */
        int alone;

        Values(Text text, Heads heads, Code code, Pool pool) {
            this.text = text;
            this.heads = heads;
            this.kin = heads.kin;
            this.code = code;
            this.pool = pool;
        }

        void beginMethod(int c, boolean isFixed) {
            own = c;
            fixed = isFixed;
            alone = NONE;
            open = 0;
        }

        /** An E that is a part of an S. */
        void readWhole(int depth) {
            readValue(depth);
        }

        /** The condition in brackets behind a word; told is the jump that goes where it is false. */
        int readCondition(int depth) {
            int at = text.pos + 2;
            text.pos = at;
            readValue(depth);
            wantType(type == Kin.BOOLEAN, at);
            text.pos++;
            return code.jump(Code.IF_NOT, 1);
        }

        private void readValue(int depth) {
            if (depth > DEEPEST) {
                return;
            }
            int start = text.pos;
            int base = open;
            readUnary(depth + 1);
            for (int turn = 0; turn < Text.MOST && Text.level(text.kind()) > 0; turn++) {
                for (int s = 0; s < SIGNS_ROOM && isSignDue(base, Text.level(text.kind())); s++) {
                    closeSign();
                }
                if (text.kind() == Text.INSTANCEOF) {
                    readInstanceof();
                } else {
                    openSign();
                    readUnary(depth + 1);
                }
            }
            for (int s = 0; s < SIGNS_ROOM && isSignDue(base, 1); s++) {
                closeSign();
            }
            if (text.kind() == Text.QUESTION) {
                readChoice(start, depth);
            }
        }

        private void readChoice(int start, int depth) {
            int sign = text.pos;
            wantType(type == Kin.BOOLEAN, start);
            int other = code.jump(Code.IF_NOT, 1);
            text.pos++;
            readValue(depth + 1);
            int one = type;
            int over = code.jump(Code.JUMP, 0);
            code.pop(1);
            code.aimHere(other);
            text.pos++;
            readValue(depth + 1);
            wantType(isPair(one, type), sign);
            type = kin.fits(one, type) ? type : one;
            code.pop(1);
            code.push(type);
            code.aimHere(over);
            form = VALUE;
        }

        /** Two ints, two booleans, or two others of which one fits the other. */
        private boolean isPair(int a, int b) {
            if (Kin.isReference(a) && Kin.isReference(b)) {
                return kin.oneFits(a, b);
            }
            return a == b && Kin.isNumber(a);
        }

        private void openSign() {
            int sign = text.kind();
            if (open < signs.length) {
                signs[open] = sign;
                signAt[open] = text.pos;
                leftFirst[open] = first;
                leftType[open] = type;
                leftJump[open] = NONE;
                if (sign == Text.AND || sign == Text.OR) {
                    wantType(type == Kin.BOOLEAN, first);
                    leftJump[open] = code.jump(sign == Text.AND ? Code.IF_NOT : Code.IF, 1);
                }
                open++;
            }
            text.pos++;
        }

        /** Whether a sign waits whose right part ends where one of that level comes. */
        private boolean isSignDue(int base, int level) {
            return open > base && Text.level(signs[open - 1]) >= level;
        }

        private void closeSign() {
            open--;
            int sign = signs[open];
            int left = leftType[open];
            if (sign == Text.AND || sign == Text.OR) {
                closeShort(sign, leftJump[open]);
            } else if (sign == Text.EQUAL || sign == Text.UNEQUAL) {
                wantType(isPair(left, type), signAt[open]);
                code.truth(compareOp(sign, Kin.isNumber(type)), 2);
                type = Kin.BOOLEAN;
            } else if (Text.level(sign) == Text.RELATION_LEVEL) {
                wantType(left == Kin.INT && type == Kin.INT, signAt[open]);
                code.truth(compareOp(sign, true), 2);
                type = Kin.BOOLEAN;
            } else {
                boolean bits = sign == Text.BIT_AND || sign == Text.BIT_OR || sign == Text.BIT_XOR;
                wantType(left == type && (type == Kin.INT || (bits && type == Kin.BOOLEAN)), signAt[open]);
                code.op(arithmeticOp(sign));
                code.pop(2);
                code.push(type);
            }
            first = leftFirst[open];
            form = VALUE;
        }

        private void wantType(boolean right, int token) {
            if (!right) {
                text.tell(Text.TYPE, token);
            }
        }

        private void closeShort(int sign, int jump) {
            wantType(type == Kin.BOOLEAN, first);
            int over = code.jump(Code.JUMP, 0);
            code.pop(1);
            code.aimHere(jump);
            code.op(sign == Text.AND ? 3 : 4);
            code.push(Kin.BOOLEAN);
            code.aimHere(over);
            type = Kin.BOOLEAN;
        }

        private static int compareOp(int sign, boolean numbers) {
            switch (sign) {
                case Text.EQUAL:
                    return numbers ? 159 : 165;
                case Text.UNEQUAL:
                    return numbers ? 160 : 166;
                case Text.LESS:
                    return 161;
                case Text.AT_LEAST:
                    return 162;
                case Text.MORE:
                    return 163;
                default:
                    return 164;
            }
        }

        private static int arithmeticOp(int sign) {
            switch (sign) {
                case Text.PLUS:
                    return 96;
                case Text.MINUS:
                    return 100;
                case Text.TIMES:
                    return 104;
                case Text.OVER:
                    return 108;
                case Text.REST:
                    return 112;
                case Text.LEFT:
                    return 120;
                case Text.RIGHT:
                    return 122;
                case Text.RIGHT_BARE:
                    return 124;
                case Text.BIT_AND:
                    return 126;
                case Text.BIT_OR:
                    return 128;
                default:
                    return 130;
            }
        }

        private void readInstanceof() {
            int at = text.pos + 1;
            int c = readNamedClass(at, at + 1);
            if (c != NONE) {
                wantKinOf(c, at);
                code.op(193, pool.classOf(c));
                code.pop(1);
                code.push(Kin.BOOLEAN);
            }
            type = Kin.BOOLEAN;
            form = VALUE;
        }

        private int readNamedClass(int at, int behind) {
            int c = heads.classAt(at);
            if (c == NONE) {
                text.tell(Text.UNKNOWN, at);
            }
            text.pos = behind;
            return c;
        }

        private void wantKinOf(int c, int at) {
            wantType(Kin.isReference(type) && kin.oneFits(type, c), at);
        }

        private void readUnary(int depth) {
            if (depth > DEEPEST) {
                return;
            }
            int start = text.pos;
            int kind = text.kind();
            if (kind == Text.MINUS || kind == Text.TILDE || kind == Text.NOT) {
                text.pos++;
                readUnary(depth + 1);
                closeUnary(kind, start);
            } else if (text.beginsCast()) {
                int c = readNamedClass(start + 1, start + 3);
                readUnary(depth + 1);
                closeCast(c, start + 1);
            } else {
                readPrimary(depth);
            }
            first = start;
        }

        private void closeUnary(int kind, int at) {
            form = VALUE;
            if (kind == Text.NOT) {
                wantType(type == Kin.BOOLEAN, first);
                code.truth(Code.IF_NOT, 1);
                return;
            }
            wantType(type == Kin.INT, at);
            if (kind == Text.MINUS) {
                code.op(116);
            } else {
                code.push(Kin.INT);
                code.op(2, 130);
                code.pop(1);
            }
        }

        private void closeCast(int c, int at) {
            form = VALUE;
            if (c == NONE) {
                return;
            }
            wantKinOf(c, at);
            code.op(192, pool.classOf(c));
            code.pop(1);
            code.push(c);
            type = c;
        }

        private void readPrimary(int depth) {
            int start = text.pos;
            switch (text.kind()) {
                case Text.NAME:
                    readNamed(depth);
                    break;
                case Text.OPEN:
                    text.pos++;
                    readValue(depth);
                    text.pos++;
                    form = VALUE;
                    break;
                case Text.NEW:
                    readNew(depth);
                    break;
                default:
                    readConstant();
                    break;
            }
            int kind = text.kind();
            for (int turn = 0; turn < Text.MOST && (kind == Text.POINT || kind == Text.OPEN_INDEX); turn++) {
                fetch();
                if (kind == Text.POINT) {
                    readBehindPoint(start, depth);
                } else {
                    readElement(depth);
                }
                kind = text.kind();
            }
            if (kind != Text.ASSIGN) {
                fetch();
            }
        }

        /** Brings what was only named to the stack. */
        private void fetch() {
            switch (form) {
                case VARIABLE:
                    code.op(Kin.isNumber(type) ? 21 : 25, member);
                    break;
                case FIELD:
                    code.op(180, pool.fieldOf(owner, member));
                    code.pop(1);
                    break;
                case ELEMENT:
                    code.op(type == Kin.INT ? 46 : 50);
                    code.pop(2);
                    break;
                default:
                    return;
            }
            code.push(type);
            form = VALUE;
        }

        private void give(int givenType) {
            code.push(givenType);
            type = givenType;
            form = VALUE;
        }

        private void readConstant() {
            int at = text.pos;
            text.pos++;
            switch (text.kindAt(at)) {
                case Text.NUMBER:
                    readNumber(text.valueAt(at));
                    break;
                case Text.TRUE:
                    code.op(4);
                    give(Kin.BOOLEAN);
                    break;
                case Text.FALSE:
                    code.op(3);
                    give(Kin.BOOLEAN);
                    break;
                case Text.NULL:
                    code.op(1);
                    give(Kin.NULL);
                    break;
                default:
                    giveThis(at);
                    break;
            }
        }

        private void readNumber(int value) {
            if (value <= 5) {
                code.op(3 + value);
            } else if (value <= 127) {
                code.op(16, value);
            } else {
                code.op(18, pool.numberOf(value));
            }
            give(Kin.INT);
        }

        private void giveThis(int at) {
            if (fixed) {
                text.tell(Text.AWAY, at);
            }
            code.op(25, 0);
            give(own);
        }

        private void readNew(int depth) {
            int at = text.pos + 1;
            boolean ints = text.kindAt(at) == Text.INT;
            int c = ints ? Kin.OBJECT : readNamedClass(at, at);
            if (c == NONE) {
                return;
            }
            if (text.kindAt(at + 1) == Text.OPEN) {
                text.pos = at + 3;
                code.op(187, pool.classOf(c));
                give(c);
                return;
            }
            text.pos = at + 2;
            readValue(depth);
            text.pos++;
            wantType(type == Kin.INT, at + 1);
            code.op(ints ? 188 : 189, ints ? 10 : pool.classOf(c));
            code.pop(1);
            give(ints ? Kin.INTS : Kin.ARRAY + c);
        }

        private void readElement(int depth) {
            int at = text.pos;
            int array = type;
            text.pos++;
            readValue(depth);
            text.pos++;
            wantType(Kin.isArray(array) && type == Kin.INT, at);
            type = Kin.elementOf(array);
            form = ELEMENT;
        }

        private void readNamed(int depth) {
            int at = text.pos;
            int name = text.valueAt(at);
            text.pos++;
            if (text.kind() == Text.OPEN) {
                int m = methodNamed(own, at);
                if (m != NONE && !heads.isFixed(m)) {
                    giveThis(at);
                }
                readCall(own, m, at, ANY, at, depth);
                return;
            }
            int n = code.localOf(name);
            int f = n == NONE ? heads.fieldOf(own, name) : NONE;
            if (n != NONE) {
                form = VARIABLE;
                member = n;
                type = code.typeOfLocal(n);
            } else if (f != NONE) {
                giveThis(at);
                nameField(own, f);
            } else if (isCallBehindPoint(at + 1)) {
                int c = readNamedClass(at, at + 3);
                readCall(c, methodNamed(c, at + 2), at + 2, BY_CLASS, at, depth);
            } else {
                text.tell(Text.UNKNOWN, at);
            }
        }

        private int methodNamed(int c, int at) {
            int m = heads.methodOf(c, text.valueAt(at));
            if (m == NONE) {
                text.tell(Text.UNKNOWN, at);
            }
            return m;
        }

        private boolean isCallBehindPoint(int point) {
            return text.kindAt(point) == Text.POINT && text.kindAt(point + 1) == Text.NAME
                && text.kindAt(point + 2) == Text.OPEN;
        }

        private void nameField(int c, int f) {
            form = FIELD;
            owner = c;
            member = f;
            type = heads.typeOfField(f);
        }

        private void readBehindPoint(int start, int depth) {
            int at = text.pos + 1;
            int name = text.valueAt(at);
            boolean called = text.kindAt(at + 1) == Text.OPEN;
            boolean array = Kin.isArray(type);
            wantType(array || Kin.isClass(type), at - 1);
            int found = called ? heads.methodOf(type, name) : heads.fieldOf(type, name);
            if (array ? called || name != Text.LENGTH_NAME : found == NONE) {
                text.tell(Text.UNKNOWN, at);
            }
            text.pos = at + 1;
            if (called) {
                readCall(type, found, at, BY_VALUE, start, depth);
            } else if (array) {
                code.op(190);
                code.pop(1);
                give(Kin.INT);
            } else {
                nameField(type, found);
            }
        }

        /** The ARGS at the reading place and the call itself; its NAME's meaning has been looked at. */
        private void readCall(int c, int m, int at, int how, int start, int depth) {
            int given = 0;
            boolean right = true;
            text.pos++;
            for (int turn = 0; turn < Text.MOST && text.fault == 0 && text.kind() != Text.CLOSE; turn++) {
                readValue(depth);
                right = right && kin.fits(type, heads.parameterType(m, given));
                given++;
                if (text.kind() == Text.COMMA) {
                    text.pos++;
                }
            }
            text.pos++;
            if (text.fault != 0) {
                return;
            }
            boolean isFixed = heads.isFixed(m);
            boolean wrongWay = isFixed ? how == BY_VALUE : how == BY_CLASS;
            wantType(right && !wrongWay && given == heads.parametersOf(m), at);
            code.op(isFixed ? 184 : 182, pool.methodOf(c, m));
            code.pop(isFixed ? given : given + 1);
            closeCall(heads.resultOf(m), at, start);
        }

        private void closeCall(int result, int at, int start) {
            if (result != Kin.VOID) {
                give(result);
            } else if (start != alone || text.kind() != Text.SEMICOLON) {
                text.tell(Text.TYPE, at);
            }
            type = result;
            form = CALL;
        }
    }

    /** Reads each BLOCK once more, holds it against the RULES, makes its CODE and the IMAGES. */
    private static final class Bodies {
        private static final int DEEPEST = Syntax.DEEPEST + 2;
        /** One takes six bytes of the TEXT (break;). */
        private static final int BREAKS_ROOM = Text.MOST / 6;

        private final Text text;
        private final Heads heads;
        private final Kin kin;
        private final Pool pool;
        private final Code code = new Code();
        private final Values values;
        private final byte[][] images = new byte[Heads.CLASSES_MOST][];
        private int muchAt;
        private int result;
        private int loopAt;
        private int loopSight;
        private final int[] breaks = new int[BREAKS_ROOM];
        private int breakCount;

        Bodies(Text text, Heads heads) {
            this.text = text;
            this.heads = heads;
            kin = heads.kin;
            pool = new Pool(text, heads);
            values = new Values(text, heads, code, pool);
        }

        byte[] made(int k) {
            return k >= 0 && k < images.length ? images[k] : null;
        }

        void beginProgram() {
            muchAt = NONE;
        }

        void closeProgram() {
            if (muchAt != NONE) {
                text.tell(Text.MUCH, muchAt);
            }
        }

        private void noteMuch(boolean much, int at) {
            if (much && muchAt == NONE) {
                muchAt = at;
            }
        }

        void beginClass(int k) {
            pool.beginClass(k);
        }

        void closeClass(int k) {
            noteMuch(pool.isTooMuch(), heads.tokenOfClass(k));
            if (text.fault == 0 && muchAt == NONE && k >= 0 && k < images.length) {
                images[k] = pool.closeImage();
            }
        }

        void makeMethod(int k, int i) {
            int m = k * Heads.MEMBERS_MOST + i;
            int c = Kin.BUILT_IN + k;
            pool.beginMethod(m);
            code.beginMethod();
            values.beginMethod(c, heads.isFixed(m));
            if (!heads.isFixed(m)) {
                code.addLocal(NONE, c);
            }
            for (int p = 0; p < heads.parametersOf(m); p++) {
                code.addLocal(heads.parameterName(m, p), heads.parameterType(m, p));
            }
            result = heads.resultOf(m);
            loopAt = NONE;
            breakCount = 0;
            text.pos = heads.bodyOf(m);
            if (readBlock(0)) {
                if (result != Kin.VOID) {
                    text.tell(Text.ENDS, heads.tokenOfMethod(m));
                }
                code.op(177);
            }
            code.writeTo(pool);
            noteMuch(code.isTooMuch(), heads.tokenOfMethod(m));
        }

        /** Each reader of an S or a BLOCK tells whether it can end. */
        private boolean readBlock(int depth) {
            int sight = code.sight;
            boolean ends = true;
            text.pos++;
            for (int s = 0; s < Text.MOST && text.fault == 0 && text.kind() != Text.CLOSE_BLOCK; s++) {
                if (!ends) {
                    text.tell(Text.DEAD, text.pos);
                }
                ends = readStatement(depth);
            }
            text.pos++;
            code.sight = sight;
            return ends;
        }

        /** An S of if, else or while: its variable is in sight in it alone. */
        private boolean readPart(int depth) {
            int sight = code.sight;
            boolean ends = readStatement(depth);
            code.sight = sight;
            return ends;
        }

        private boolean readStatement(int depth) {
            if (depth > DEEPEST) {
                return false;
            }
            switch (text.kind()) {
                case Text.OPEN_BLOCK:
                    return readBlock(depth + 1);
                case Text.IF:
                    return readIf(depth + 1);
                case Text.WHILE:
                    return readWhile(depth + 1);
                case Text.TRY:
                    return readTry(depth + 1);
                case Text.BREAK:
                case Text.CONTINUE:
                    return readLeave();
                case Text.RETURN:
                    return readReturn(depth + 1);
                case Text.THROW:
                    return readThrow(depth + 1);
                case Text.PRINT:
                    return readPrint(depth + 1);
                default:
                    return text.beginsVariable() ? readVariable(depth + 1) : readPlain(depth + 1);
            }
        }

        private boolean readIf(int depth) {
            int otherwise = values.readCondition(depth);
            boolean ends = readPart(depth);
            if (text.kind() != Text.ELSE) {
                code.aimHere(otherwise);
                return true;
            }
            text.pos++;
            int over = ends ? code.jump(Code.JUMP, 0) : NONE;
            code.aimHere(otherwise);
            boolean otherEnds = readPart(depth);
            if (ends) {
                code.aimHere(over);
            }
            return ends || otherEnds;
        }

        private boolean readWhile(int depth) {
            int outerAt = loopAt;
            int outerSight = loopSight;
            int outerBreaks = breakCount;
            boolean endless = text.isWhileTrue();
            int start = code.length;
            int out = NONE;
            if (endless) {
                text.pos += 4;
            } else {
                out = values.readCondition(depth);
            }
            loopAt = start;
            loopSight = code.sight;
            if (readPart(depth)) {
                code.jumpBack(start, code.sight);
            }
            boolean ends = !endless || breakCount > outerBreaks;
            if (!endless) {
                code.aimHere(out);
            }
            for (int b = outerBreaks; b < breakCount && b < breaks.length; b++) {
                code.aimHere(breaks[b]);
            }
            breakCount = outerBreaks;
            loopAt = outerAt;
            loopSight = outerSight;
            return ends;
        }

        private boolean readLeave() {
            if (loopAt == NONE) {
                text.tell(Text.AWAY, text.pos);
            } else if (text.kind() == Text.CONTINUE) {
                code.jumpBack(loopAt, loopSight);
            } else if (breakCount < breaks.length) {
                breaks[breakCount] = code.jump(Code.JUMP, 0);
                breakCount++;
            }
            text.pos += 2;
            return false;
        }

        private boolean readTry(int depth) {
            int from = code.length;
            text.pos++;
            code.op(0);
            boolean ends = readBlock(depth);
            int to = code.length;
            int over = ends ? code.jump(Code.JUMP, 0) : NONE;
            int classAt = text.pos + 2;
            int c = heads.classAt(classAt);
            if (c == NONE) {
                text.tell(Text.UNKNOWN, classAt);
            } else if (!kin.fits(c, Kin.FAULT)) {
                text.tell(Text.TYPE, classAt);
            }
            checkTwice(classAt + 1);
            code.addHandler(from, to, c);
            int sight = code.sight;
            code.store(code.addLocal(text.valueAt(classAt + 1), c), c);
            text.pos = classAt + 3;
            boolean otherEnds = readBlock(depth);
            code.sight = sight;
            if (ends) {
                code.aimHere(over);
            }
            return ends || otherEnds;
        }

        private void checkTwice(int at) {
            if (code.localOf(text.valueAt(at)) != NONE) {
                text.tell(Text.TWICE, at);
            }
        }

        private boolean readReturn(int depth) {
            int at = text.pos;
            text.pos++;
            boolean bare = text.kind() == Text.SEMICOLON;
            if (bare != (result == Kin.VOID)) {
                text.tell(Text.AWAY, at);
            }
            if (bare) {
                code.op(177);
            } else {
                values.readWhole(depth);
                if (!kin.fits(values.type, result)) {
                    text.tell(Text.TYPE, at);
                }
                code.op(Kin.isNumber(result) ? 172 : 176);
                code.pop(1);
            }
            text.pos++;
            return false;
        }

        private boolean readThrow(int depth) {
            int at = text.pos;
            text.pos++;
            values.readWhole(depth);
            if (!kin.fits(values.type, Kin.FAULT)) {
                text.tell(Text.TYPE, at);
            }
            code.op(191);
            code.pop(1);
            text.pos++;
            return false;
        }

        private boolean readPrint(int depth) {
            int at = text.pos;
            text.pos += 2;
            values.readWhole(depth);
            if (!Kin.isNumber(values.type)) {
                text.tell(Text.TYPE, at);
            }
            code.op(186);
            code.pop(1);
            text.pos += 2;
            return true;
        }

        private boolean readVariable(int depth) {
            int type = heads.readType();
            int at = text.pos;
            checkTwice(at);
            text.pos = at + 2;
            values.readWhole(depth);
            if (!kin.fits(values.type, type)) {
                text.tell(Text.TYPE, at + 1);
            }
            code.store(code.addLocal(text.valueAt(at), type), type);
            text.pos++;
            return true;
        }

        private boolean readPlain(int depth) {
            int at = text.pos;
            values.alone = at;
            values.readWhole(depth);
            if (text.kind() == Text.ASSIGN) {
                int sign = text.pos;
                int form = values.form;
                int type = values.type;
                int owner = values.owner;
                int member = values.member;
                text.pos++;
                values.readWhole(depth);
                if (form < Values.VARIABLE || !kin.fits(values.type, type)) {
                    text.tell(Text.TYPE, sign);
                }
                closeGiving(form, type, owner, member);
            } else {
                closeAlone(at);
            }
            text.pos++;
            return true;
        }

        private void closeAlone(int at) {
            if (values.form != Values.CALL) {
                text.tell(Text.TYPE, at);
            }
            if (values.type != Kin.VOID) {
                code.op(87);
                code.pop(1);
            }
        }

        private void closeGiving(int form, int type, int owner, int member) {
            switch (form) {
                case Values.VARIABLE:
                    code.store(member, type);
                    break;
                case Values.FIELD:
                    code.op(181, pool.fieldOf(owner, member));
                    code.pop(2);
                    break;
                default:
                    code.op(type == Kin.INT ? 79 : 83);
                    code.pop(3);
                    break;
            }
        }
    }

    /** An IMAGE as it was read: where its constants, fields and methods are. */
    private static final class Image {
        static final int TEXT = 1;
        static final int INT = 2;
        static final int CLASS = 3;
        static final int MEMBER = 4;

        static final int FIXED = 0;
        static final int NAME = 1;
        static final int KIND = 2;
        static final int STACK = 3;
        static final int LOCALS = 4;
        static final int LENGTH = 5;
        static final int CODE = 6;
        static final int HANDLERS = 7;
        static final int HANDLERS_AT = 8;
        static final int FRAMES = 9;
        static final int FRAMES_AT = 10;
        static final int PARAMETERS = 11;
        private static final int ROW = 12;

        static final int HANDLERS_MOST = 20;
        static final int FRAMES_MOST = 100;
        static final int CODE_MOST = 1500;
        static final int PLACES_MOST = 30;
        static final int HANDLER_BYTES = 7;
        private static final String BUILT_IN = "Object Fault NullFault IndexFault ArithFault CastFault SizeFault StoreFault ";
        private static final int TEXT_LONGEST = 120;

        private byte[] bytes = new byte[0];
        int size;
        private int pos;
        private int form;
        private final int[] tags = new int[256];
        /** Where a constant's parts are: those of a TEXT from here up to its end. */
        private final int[] at = new int[256];
        private final int[] textStop = new int[256];
        int constants;
        int selfText;
        int aboveText;
        int fields;
        private final int[] field = new int[Heads.MEMBERS_MOST * 2];
        int methods;
        private final int[] method = new int[Heads.MEMBERS_MOST * ROW];

        /** Reads bytes that stay another's until keepOwn; told is the place of FORM, or NONE. */
        int read(byte[] source, int length) {
            bytes = source;
            size = Math.min(length, source.length);
            pos = 0;
            form = NONE;
            fields = 0;
            methods = 0;
            readConstants();
            selfText = nextPlainClass();
            aboveText = nextPlainClass();
            readFields();
            int many = nextUpTo(0, Heads.MEMBERS_MOST);
            for (int m = 0; m < many && form == NONE; m++) {
                readMethod(m * ROW);
                methods++;
            }
            if (pos < size) {
                bad(pos);
            }
            return form;
        }

        void keepOwn() {
            bytes = Arrays.copyOf(bytes, size);
        }

        byte[] ownBytes() {
            return bytes;
        }

        private void bad(int place) {
            if (form == NONE) {
                form = place;
            }
        }

        private int next() {
            if (pos >= size) {
                form = form == NONE ? size : form;
                return 0;
            }
            pos++;
            return bytes[pos - 1] & 255;
        }

        private int nextUpTo(int least, int most) {
            int value = next();
            if (value < least || value > most) {
                bad(pos - 1);
            }
            return value;
        }

        private void skipPairs(int many) {
            for (int i = 0; i < many * 2; i++) {
                next();
            }
        }

        private void readConstants() {
            nextUpTo(74, 74);
            nextUpTo(77, 77);
            constants = next();
            for (int k = 1; k <= constants && form == NONE; k++) {
                readConstant(k);
            }
            for (int k = 1; k <= constants && form == NONE; k++) {
                checkConstant(k);
            }
        }

        private void readConstant(int k) {
            int tag = nextUpTo(TEXT, MEMBER);
            int behind = tag == INT ? 4 : tag == CLASS ? 1 : 3;
            if (tag == TEXT) {
                behind = nextUpTo(1, TEXT_LONGEST);
            }
            tags[k] = tag;
            at[k] = pos;
            textStop[k] = tag == TEXT ? pos + behind : pos;
            for (int i = 0; i < behind && form == NONE; i++) {
                if (tag == TEXT) {
                    nextUpTo(33, 126);
                } else {
                    next();
                }
            }
        }

        private void checkConstant(int k) {
            int from = at[k];
            if (tags[k] == CLASS) {
                int t = partOf(k, 0);
                if (!isNameText(t) && !(isArrayText(t) && isFieldKind(t))) {
                    bad(from);
                }
            }
            if (tags[k] == MEMBER) {
                int kind = partOf(k, 2);
                if (tagOf(partOf(k, 0)) != CLASS) {
                    bad(from);
                }
                if (!isNameText(partOf(k, 1))) {
                    bad(from + 1);
                }
                if (!isFieldKind(kind) && parametersIn(kind) == NONE) {
                    bad(from + 2);
                }
            }
        }

        int tagOf(int k) {
            return k >= 1 && k <= constants && k < tags.length ? tags[k] : 0;
        }

        int byteAt(int place) {
            return place >= 0 && place < size ? bytes[place] & 255 : 0;
        }

        int pairAt(int place) {
            return byteAt(place) << 8 | byteAt(place + 1);
        }

        /** The index that stands in constant k behind i others. */
        int partOf(int k, int i) {
            return k >= 1 && k <= constants && k < at.length ? byteAt(at[k] + i) : 0;
        }

        int numberOf(int k) {
            return partOf(k, 0) << 24 | partOf(k, 1) << 16 | partOf(k, 2) << 8 | partOf(k, 3);
        }

        /** Where the bytes of TEXT k are; what is no TEXT has none. */
        int textAt(int k) {
            return k >= 1 && k <= constants && k < at.length ? at[k] : 0;
        }

        int textEnd(int k) {
            return k >= 1 && k <= constants && k < textStop.length ? textStop[k] : 0;
        }

        boolean sameBytes(int from, int stop, Image other, int otherFrom, int otherStop) {
            boolean same = stop - from == otherStop - otherFrom && from >= 0 && stop <= size
                && otherFrom >= 0 && otherStop <= other.size;
            for (int i = 0; i < stop - from && same; i++) {
                same = bytes[from + i] == other.bytes[otherFrom + i];
            }
            return same;
        }

        boolean sameText(int k, Image other, int otherK) {
            return sameBytes(textAt(k), textEnd(k), other, other.textAt(otherK), other.textEnd(otherK));
        }

        /** The class 0 to 7 that the bytes from .. stop name, or NONE. */
        int builtIn(int from, int stop) {
            int c = 0;
            int place = from;
            for (int i = 0; i < BUILT_IN.length(); i++) {
                char letter = BUILT_IN.charAt(i);
                if (letter != ' ') {
                    boolean same = place >= 0 && place < stop && place < size && bytes[place] == letter;
                    place = same ? place + 1 : NONE;
                } else if (place == stop) {
                    return c;
                } else {
                    place = from;
                    c++;
                }
            }
            return NONE;
        }

        private boolean isNameText(int k) {
            return tagOf(k) == TEXT && Text.isName(bytes, at[k], textStop[k]);
        }

        private boolean isArrayText(int k) {
            return tagOf(k) == TEXT && byteAt(at[k]) == '[';
        }

        private boolean isFieldKind(int k) {
            return tagOf(k) == TEXT && behindKind(at[k], textStop[k]) == textStop[k];
        }

        /** The place behind the kind that begins at from, or NONE if there is none before stop. */
        int behindKind(int from, int stop) {
            int c = from < stop ? byteAt(from) : 0;
            if (c == 'I' || c == 'Z') {
                return from + 1;
            }
            int named = c == '[' ? from + 1 : from;
            c = named < stop ? byteAt(named) : 0;
            if (c == 'I') {
                return named + 1;
            }
            if (c != 'L') {
                return NONE;
            }
            int last = named + 1;
            while (last < stop && byteAt(last) != ';') {
                last++;
            }
            return last < stop && Text.isName(bytes, named + 1, last) ? last + 1 : NONE;
        }

        /** How many parameters the kind of a method has, or NONE if the TEXT is no such kind. */
        private int parametersIn(int k) {
            if (tagOf(k) != TEXT || byteAt(at[k]) != '(') {
                return NONE;
            }
            int stop = textStop[k];
            int from = at[k] + 1;
            int count = 0;
            while (count <= Heads.PARAMETERS_MOST && from != NONE && from < stop && byteAt(from) != ')') {
                from = behindKind(from, stop);
                count++;
            }
            if (from == NONE || from >= stop || count > Heads.PARAMETERS_MOST) {
                return NONE;
            }
            boolean isVoid = from + 2 == stop && byteAt(from + 1) == 'V';
            return isVoid || behindKind(from + 1, stop) == stop ? count : NONE;
        }

        private void nextClass() {
            if (tagOf(next()) != CLASS) {
                bad(pos - 1);
            }
        }

        /** The name's TEXT of a CLASS that is no array. */
        private int nextPlainClass() {
            int k = next();
            int t = partOf(k, 0);
            if (tagOf(k) != CLASS || isArrayText(t)) {
                bad(pos - 1);
            }
            return t;
        }

        private int nextName() {
            int k = next();
            if (!isNameText(k)) {
                bad(pos - 1);
            }
            return k;
        }

        private void readFields() {
            int many = nextUpTo(0, Heads.MEMBERS_MOST);
            for (int f = 0; f < many && form == NONE; f++) {
                field[f * 2] = nextName();
                int kind = next();
                if (!isFieldKind(kind)) {
                    bad(pos - 1);
                }
                field[f * 2 + 1] = kind;
                fields++;
            }
        }

        private void readMethod(int row) {
            method[row + FIXED] = nextUpTo(0, 1);
            method[row + NAME] = nextName();
            int kind = next();
            int parameters = parametersIn(kind);
            if (parameters == NONE) {
                bad(pos - 1);
            }
            method[row + KIND] = kind;
            method[row + PARAMETERS] = parameters;
            method[row + STACK] = nextUpTo(0, PLACES_MOST);
            method[row + LOCALS] = nextUpTo(parameters + 1 - method[row + FIXED], PLACES_MOST);
            readCode(row);
            readHandlers(row);
            readFrames(row);
        }

        private void readCode(int row) {
            int from = pos;
            int high = next();
            int length = high << 8 | next();
            if (length < 1 || length > CODE_MOST) {
                bad(from);
            }
            method[row + LENGTH] = length;
            method[row + CODE] = pos;
            if (pos + length > size) {
                bad(size);
            }
            pos = Math.min(pos + length, size);
        }

        private void readHandlers(int row) {
            int many = nextUpTo(0, HANDLERS_MOST);
            method[row + HANDLERS] = many;
            method[row + HANDLERS_AT] = pos;
            for (int h = 0; h < many && form == NONE; h++) {
                skipPairs(3);
                nextClass();
            }
        }

        private void readFrames(int row) {
            int many = nextUpTo(0, FRAMES_MOST);
            method[row + FRAMES] = many;
            method[row + FRAMES_AT] = pos;
            for (int f = 0; f < many && form == NONE; f++) {
                skipPairs(1);
                readFrameTypes();
                readFrameTypes();
            }
        }

        private void readFrameTypes() {
            int many = next();
            for (int i = 0; i < many && form == NONE; i++) {
                if (nextUpTo(0, 3) == 3) {
                    nextClass();
                }
            }
        }

        int of(int m, int what) {
            int i = m * ROW + what;
            return m >= 0 && m < methods && i < method.length ? method[i] : 0;
        }

        int fieldName(int f) {
            return f >= 0 && f < fields ? field[f * 2] : 0;
        }

        int fieldKind(int f) {
            return f >= 0 && f < fields ? field[f * 2 + 1] : 0;
        }
    }

    /** The classes that were brought, by number and name, and what a run needs to know of them once verified. */
    private static final class Space {
        private static final int CLASSES_MOST = 8;
        private static final int CONSTANTS = 256;
        private static final int METHODS = CLASSES_MOST * Heads.MEMBERS_MOST;

        final Kin kin = new Kin();
        private final Image[] images = new Image[CLASSES_MOST];
        private Image spare = new Image();
        int count;
        boolean verified;
        private final int[] links = new int[CLASSES_MOST * CONSTANTS];
        private final int[] cells = new int[Kin.CLASSES];
        private final int[] nearest = new int[CLASSES_MOST * METHODS];

        Space() {
            for (int k = 0; k < CLASSES_MOST; k++) {
                images[k] = new Image();
            }
        }

        void forget() {
            count = 0;
            verified = false;
            kin.forget();
        }

        Image imageOf(int c) {
            return c >= Kin.BUILT_IN && c < Kin.BUILT_IN + count ? images[c - Kin.BUILT_IN] : null;
        }

        /** The next class, or -2 - FORM, or NONE. */
        int bring(byte[] bytes, int size) {
            int form = spare.read(bytes, size);
            if (form != NONE) {
                return -2 - form;
            }
            int t = spare.selfText;
            if (count >= CLASSES_MOST || classOf(spare, spare.textAt(t), spare.textEnd(t)) != NONE) {
                return NONE;
            }
            spare.keepOwn();
            swapSpare(count);
            count++;
            relate();
            return Kin.BUILT_IN + count - 1;
        }

        private void swapSpare(int k) {
            Image old = images[k];
            images[k] = spare;
            spare = old;
        }

        private void relate() {
            verified = false;
            kin.forget();
            for (int k = 0; k < count; k++) {
                int t = images[k].aboveText;
                kin.setAbove(Kin.BUILT_IN + k, classOf(images[k], images[k].textAt(t), images[k].textEnd(t)));
            }
            kin.settle();
        }

        boolean change(int c, int i, int v) {
            Image image = imageOf(c);
            if (image == null || i < 0 || i >= image.size) {
                return false;
            }
            byte[] bytes = image.ownBytes();
            byte before = bytes[i];
            bytes[i] = (byte) v;
            if (spare.read(bytes, image.size) != NONE || isNamedAsOther(c)) {
                bytes[i] = before;
                return false;
            }
            swapSpare(c - Kin.BUILT_IN);
            relate();
            return true;
        }

        private boolean isNamedAsOther(int c) {
            int t = spare.selfText;
            boolean other = spare.builtIn(spare.textAt(t), spare.textEnd(t)) != NONE;
            for (int k = 0; k < count; k++) {
                other = other || (Kin.BUILT_IN + k != c && images[k].sameText(images[k].selfText, spare, t));
            }
            return other;
        }

        /** The class that the bytes from .. stop of an IMAGE name, or NONE. */
        int classOf(Image image, int from, int stop) {
            for (int k = 0; k < count; k++) {
                int t = images[k].selfText;
                if (images[k].sameBytes(images[k].textAt(t), images[k].textEnd(t), image, from, stop)) {
                    return Kin.BUILT_IN + k;
                }
            }
            return image.builtIn(from, stop);
        }

        /** The type that a kind tells (a boolean is an INT here), or NONE if its class isn't there. */
        int typeOfKind(Image image, int from, int stop) {
            int letter = image.byteAt(from);
            if (letter == 'I' || letter == 'Z') {
                return Kin.INT;
            }
            if (letter == 'V') {
                return Kin.VOID;
            }
            if (letter != '[') {
                return classOf(image, from + 1, stop - 1);
            }
            if (image.byteAt(from + 1) == 'I') {
                return Kin.INTS;
            }
            int c = classOf(image, from + 2, stop - 1);
            return c == NONE ? NONE : Kin.ARRAY + c;
        }

        int typeOfClass(Image image, int k) {
            int t = image.partOf(k, 0);
            int from = image.textAt(t);
            int stop = image.textEnd(t);
            return image.byteAt(from) == '[' ? typeOfKind(image, from, stop) : classOf(image, from, stop);
        }

        /** The type of a field's kind; or of a method's kind that of its result, and behind it the parameters'. */
        int readKind(Image image, int k, int[] types, int into) {
            int stop = image.textEnd(k);
            int at = image.textAt(k);
            if (into < 0 || into + Heads.PARAMETERS_MOST >= types.length) {
                return 0;
            }
            if (image.byteAt(at) != '(') {
                types[into] = typeOfKind(image, at, stop);
                return 0;
            }
            at++;
            int many = 0;
            while (many < Heads.PARAMETERS_MOST && at != NONE && at < stop && image.byteAt(at) != ')') {
                int behind = image.behindKind(at, stop);
                many++;
                types[into + many] = typeOfKind(image, at, behind);
                at = behind;
            }
            types[into] = typeOfKind(image, at + 1, stop);
            return many;
        }

        private int numberOf(int c, int i) {
            return (c - Kin.BUILT_IN) * Heads.MEMBERS_MOST + i;
        }

        Image imageOfMember(int number) {
            return number >= 0 && number < count * Heads.MEMBERS_MOST ? images[number / Heads.MEMBERS_MOST] : null;
        }

        /** The nearest field, going up from class c, that is named by TEXT t of the IMAGE. */
        int fieldOf(int c, Image image, int t) {
            int at = c;
            for (int turn = 0; turn < Kin.CLASSES; turn++) {
                Image here = imageOf(at);
                if (here == null) {
                    return NONE;
                }
                for (int f = 0; f < here.fields; f++) {
                    if (here.sameText(here.fieldName(f), image, t)) {
                        return numberOf(at, f);
                    }
                }
                at = kin.above(at);
            }
            return NONE;
        }

        int methodOf(int c, Image image, int t) {
            int at = c;
            for (int turn = 0; turn < Kin.CLASSES; turn++) {
                Image here = imageOf(at);
                if (here == null) {
                    return NONE;
                }
                for (int m = 0; m < here.methods; m++) {
                    if (here.sameText(here.of(m, Image.NAME), image, t)) {
                        return numberOf(at, m);
                    }
                }
                at = kin.above(at);
            }
            return NONE;
        }

        /** Finds once what each constant and each call means, so that a STEP has nothing to look for. */
        void linkAll() {
            for (int c = 0; c < Kin.BUILT_IN + count; c++) {
                cells[c] = cellsAbove(c);
            }
            for (int k = 0; k < count; k++) {
                for (int i = 1; i <= images[k].constants; i++) {
                    links[k * CONSTANTS + i] = linkOf(images[k], i);
                }
                linkMethods(k);
            }
        }

        /** How many fields an object of class c has in all. */
        private int cellsAbove(int c) {
            int all = 0;
            int at = c;
            for (int turn = 0; turn < Kin.CLASSES; turn++) {
                Image here = imageOf(at);
                if (here == null) {
                    return all;
                }
                all += here.fields;
                at = kin.above(at);
            }
            return all;
        }

        private int linkOf(Image image, int i) {
            int tag = image.tagOf(i);
            if (tag == Image.INT) {
                return image.numberOf(i);
            }
            if (tag == Image.CLASS) {
                return typeOfClass(image, i);
            }
            if (tag != Image.MEMBER) {
                return NONE;
            }
            int c = typeOfClass(image, image.partOf(i, 0));
            if (image.byteAt(image.textAt(image.partOf(i, 2))) == '(') {
                return methodOf(c, image, image.partOf(i, 1));
            }
            int f = fieldOf(c, image, image.partOf(i, 1));
            if (f == NONE) {
                return NONE;
            }
            int owner = Kin.BUILT_IN + f / Heads.MEMBERS_MOST;
            return cellsAbove(kin.above(owner)) + f % Heads.MEMBERS_MOST;
        }

        private void linkMethods(int k) {
            int at = Kin.BUILT_IN + k;
            for (int turn = 0; turn < Kin.CLASSES; turn++) {
                Image here = imageOf(at);
                if (here == null) {
                    return;
                }
                for (int m = 0; m < here.methods; m++) {
                    nearest[k * METHODS + numberOf(at, m)] = methodOf(Kin.BUILT_IN + k, here, here.of(m, Image.NAME));
                }
                at = kin.above(at);
            }
        }

        int link(int k, int i) {
            return k >= 0 && k < CLASSES_MOST && i >= 0 && i < CONSTANTS ? links[k * CONSTANTS + i] : NONE;
        }

        int cellsOf(int c) {
            return Kin.isClass(c) ? cells[c] : 0;
        }

        /** The method that an object of class c has in place of the one with that number. */
        int nearestTo(int c, int number) {
            int k = c - Kin.BUILT_IN;
            return k >= 0 && k < CLASSES_MOST && number >= 0 && number < METHODS ? nearest[k * METHODS + number] : NONE;
        }
    }

    /** Holds a SPACE against section 5. */
    private static final class Verifier {
        private static final int NOT_THERE = 3;
        private static final int TWO_OF_A_NAME = 4;
        private static final int OTHER_KIND = 5;
        private static final int NO_INSTRUCTION = 6;
        private static final int NO_AIM = 7;
        private static final int BAD_HANDLER = 8;
        private static final int BAD_FRAME = 9;
        private static final int NOT_REACHED = 10;
        private static final int NO_CONSTANT = 11;
        private static final int NO_FIT = 12;

        private static final int CONSTANTS = 256;
        private static final int KIND_ROW = Heads.PARAMETERS_MOST + 1;
        private static final int INSIDE = -2;
        private static final int FRAME_ROW = 64;
        private static final int FRAME_LOCALS = 3;
        private static final int FRAME_STACK = 33;

        private final Space space;
        private final Kin kin;
        int toldClass = NONE;
        int toldMethod = NONE;
        int toldPlace = NONE;
        private Image image;
        private int method;
        private int place;
        private final int[] classTypes = new int[CONSTANTS];
        /** Of each MEMBER the field or method that it means, or NONE, and what its kind tells. */
        private final int[] memberNumber = new int[CONSTANTS];
        private final int[] memberParameters = new int[CONSTANTS];
        private final int[] memberTypes = new int[(CONSTANTS + 1) * KIND_ROW];
        /** Of each place INSIDE an instruction, or NONE where one begins, or the number of the FRAME there. */
        private final int[] marks = new int[Image.CODE_MOST];
        private final int[] frames = new int[Image.FRAMES_MOST * FRAME_ROW];
        private final int[] locals = new int[Image.PLACES_MOST];
        private final int[] stack = new int[Image.PLACES_MOST];
        private int length;
        private int mostHeight;
        private int height;
        private boolean fitting;
        private int result;

        Verifier(Space space) {
            this.space = space;
            kin = space.kin;
            image = new Image();
        }

        int proveHeads() {
            for (int c = Kin.BUILT_IN; c < Kin.BUILT_IN + space.count; c++) {
                takeImage(c);
                int number = 0;
                if (kin.above(c) == NONE || !areKindsThere() || !kin.endsAbove(c)) {
                    number = NOT_THERE;
                } else if (hasTwins()) {
                    number = TWO_OF_A_NAME;
                } else if (hasOtherAbove(c)) {
                    number = OTHER_KIND;
                }
                if (number != 0) {
                    return tellNumber(number, c, NONE, NONE);
                }
            }
            return 0;
        }

        int proveMethods() {
            for (int c = Kin.BUILT_IN; c < Kin.BUILT_IN + space.count; c++) {
                takeImage(c);
                takeConstants();
                for (int m = 0; m < image.methods; m++) {
                    method = m;
                    int number = proveInstructions();
                    number = number != 0 ? number : proveJumps();
                    takeFrames(number == 0);
                    number = number != 0 ? number : proveHandlers();
                    number = number != 0 ? number : proveFrames();
                    beginState(c);
                    number = number != 0 ? number : proveStates();
                    if (number != 0) {
                        return tellNumber(number, c, m, place);
                    }
                }
            }
            return 0;
        }

        private int tellNumber(int number, int c, int m, int at) {
            toldClass = c;
            toldMethod = m;
            toldPlace = at;
            return number;
        }

        private int at(int number, int where) {
            place = where;
            return number;
        }

        private void takeImage(int c) {
            Image taken = space.imageOf(c);
            if (taken != null) {
                image = taken;
            }
        }

        private boolean areKindsThere() {
            boolean there = true;
            for (int f = 0; f < image.fields; f++) {
                space.readKind(image, image.fieldKind(f), memberTypes, 0);
                there = there && memberTypes[0] != NONE;
            }
            for (int m = 0; m < image.methods; m++) {
                int many = space.readKind(image, image.of(m, Image.KIND), memberTypes, 0);
                for (int p = 0; p <= many; p++) {
                    there = there && memberTypes[p] != NONE;
                }
            }
            return there;
        }

        private boolean hasTwins() {
            boolean twins = false;
            for (int f = 0; f < image.fields; f++) {
                for (int g = 0; g < f; g++) {
                    twins = twins || image.sameText(image.fieldName(f), image, image.fieldName(g));
                }
            }
            for (int m = 0; m < image.methods; m++) {
                for (int n = 0; n < m; n++) {
                    twins = twins || image.sameText(image.of(m, Image.NAME), image, image.of(n, Image.NAME));
                }
            }
            return twins;
        }

        private boolean hasOtherAbove(int c) {
            boolean other = false;
            for (int m = 0; m < image.methods && !other; m++) {
                int number = space.methodOf(kin.above(c), image, image.of(m, Image.NAME));
                Image owner = space.imageOfMember(number);
                if (owner != null) {
                    int n = number % Heads.MEMBERS_MOST;
                    other = image.of(m, Image.FIXED) != 0 || owner.of(n, Image.FIXED) != 0
                        || !image.sameText(image.of(m, Image.KIND), owner, owner.of(n, Image.KIND));
                }
            }
            return other;
        }

        /** What the constants mean is found once a class, for its methods name them again and again. */
        private void takeConstants() {
            for (int k = 1; k <= image.constants; k++) {
                classTypes[k] = image.tagOf(k) == Image.CLASS ? space.typeOfClass(image, k) : NONE;
            }
            for (int k = 1; k <= image.constants; k++) {
                memberNumber[k] = NONE;
                if (image.tagOf(k) == Image.MEMBER) {
                    takeMember(k);
                }
            }
        }

        private void takeMember(int k) {
            int c = classTypes[image.partOf(k, 0)];
            int kind = image.partOf(k, 2);
            boolean isMethod = image.byteAt(image.textAt(kind)) == '(';
            int number = isMethod ? space.methodOf(c, image, image.partOf(k, 1))
                : space.fieldOf(c, image, image.partOf(k, 1));
            Image owner = space.imageOfMember(number);
            if (owner == null) {
                return;
            }
            int i = number % Heads.MEMBERS_MOST;
            if (owner.sameText(isMethod ? owner.of(i, Image.KIND) : owner.fieldKind(i), image, kind)) {
                memberNumber[k] = number;
                memberParameters[k] = space.readKind(image, kind, memberTypes, k * KIND_ROW);
            }
        }

        private int info(int what) {
            return image.of(method, what);
        }

        private int codeAt(int pc) {
            return image.byteAt(info(Image.CODE) + pc);
        }

        private int aimOf(int pc) {
            return pc + (short) (codeAt(pc + 1) << 8 | codeAt(pc + 2));
        }

        /** How many bytes an instruction has; 0 if there is none such. */
        static int widthOf(int op) {
            if (op <= 8 || isBare(op)) {
                return 1;
            }
            if (isJump(op)) {
                return 3;
            }
            switch (op) {
                case 16:
                case 18:
                case 21:
                case 25:
                case 54:
                case 58:
                case 180:
                case 181:
                case 182:
                case 184:
                case 187:
                case 188:
                case 189:
                case 192:
                case 193:
                    return 2;
                default:
                    return 0;
            }
        }

        static boolean isJump(int op) {
            return op == 153 || op == 154 || (op >= 159 && op <= 167);
        }

        static boolean isArithmetic(int op) {
            switch (op) {
                case 96:
                case 100:
                case 104:
                case 108:
                case 112:
                case 120:
                case 122:
                case 124:
                case 126:
                case 128:
                case 130:
                    return true;
                default:
                    return false;
            }
        }

        private static boolean isBare(int op) {
            switch (op) {
                case 46:
                case 50:
                case 79:
                case 83:
                case 87:
                case 89:
                case 116:
                case 172:
                case 176:
                case 177:
                case 186:
                case 190:
                case 191:
                    return true;
                default:
                    return isArithmetic(op);
            }
        }

        private static boolean isLast(int op) {
            return op == 167 || op == 172 || op == 176 || op == 177 || op == 191;
        }

        private int proveInstructions() {
            length = Math.min(info(Image.LENGTH), marks.length);
            Arrays.fill(marks, 0, length, INSIDE);
            int pc = 0;
            while (pc < length) {
                int width = widthOf(codeAt(pc));
                if (width == 0 || pc + width > length) {
                    return at(NO_INSTRUCTION, pc);
                }
                marks[pc] = NONE;
                pc += width;
            }
            return 0;
        }

        private boolean begins(int pc) {
            return pc >= 0 && pc < length && marks[pc] != INSIDE;
        }

        private int frameAt(int pc) {
            return begins(pc) ? marks[pc] : NONE;
        }

        private int proveJumps() {
            for (int pc = 0; pc < length; pc++) {
                if (begins(pc) && isJump(codeAt(pc)) && !begins(aimOf(pc))) {
                    return at(NO_AIM, pc);
                }
            }
            return 0;
        }

        private void takeFrames(boolean wanted) {
            int from = info(Image.FRAMES_AT);
            for (int f = 0; f < info(Image.FRAMES) && wanted; f++) {
                int row = f * FRAME_ROW;
                int where = image.pairAt(from);
                frames[row] = where;
                frames[row + 1] = image.byteAt(from + 2);
                from = takeTypes(from + 2, row + FRAME_LOCALS);
                frames[row + 2] = image.byteAt(from);
                from = takeTypes(from, row + FRAME_STACK);
                if (begins(where) && marks[where] == NONE) {
                    marks[where] = f;
                }
            }
        }

        /** Takes the types that stand behind their count; told is the place behind them. */
        private int takeTypes(int from, int row) {
            int many = image.byteAt(from);
            int at = from + 1;
            for (int i = 0; i < many; i++) {
                int tag = image.byteAt(at);
                if (i < Image.PLACES_MOST) {
                    frames[row + i] = typeOfTag(tag, image.byteAt(at + 1));
                }
                at += tag == 3 ? 2 : 1;
            }
            return at;
        }

        private int typeOfTag(int tag, int k) {
            switch (tag) {
                case 0:
                    return Kin.TOP;
                case 1:
                    return Kin.INT;
                case 2:
                    return Kin.NULL;
                default:
                    return classTypes[k];
            }
        }

        private int proveHandlers() {
            for (int h = 0; h < info(Image.HANDLERS); h++) {
                int from = handler(h, 0);
                int to = handler(h, 2);
                int aim = handler(h, 4);
                boolean right = begins(from) && (begins(to) || to == length) && from < to;
                if (!right || frameAt(aim) < 0 || !kin.fits(handlerClass(h), Kin.FAULT)) {
                    return at(BAD_HANDLER, h);
                }
            }
            return 0;
        }

        private int handler(int h, int offset) {
            return image.pairAt(info(Image.HANDLERS_AT) + h * Image.HANDLER_BYTES + offset);
        }

        private int handlerClass(int h) {
            return classTypes[image.byteAt(info(Image.HANDLERS_AT) + h * Image.HANDLER_BYTES + 6)];
        }

        private int proveFrames() {
            int before = NONE;
            for (int f = 0; f < info(Image.FRAMES); f++) {
                int row = f * FRAME_ROW;
                boolean right = begins(frames[row]) && frames[row] > before
                    && frames[row + 1] <= info(Image.LOCALS) && frames[row + 2] <= info(Image.STACK)
                    && areThere(row + FRAME_LOCALS, frames[row + 1]) && areThere(row + FRAME_STACK, frames[row + 2]);
                if (!right) {
                    return at(BAD_FRAME, f);
                }
                before = frames[row];
            }
            return 0;
        }

        private boolean areThere(int from, int many) {
            boolean there = true;
            for (int i = from; i < from + many && i < from + Image.PLACES_MOST; i++) {
                there = there && frames[i] != NONE;
            }
            return there;
        }

        private void beginState(int c) {
            height = 0;
            Arrays.fill(locals, Kin.TOP);
            mostHeight = Math.min(info(Image.STACK), stack.length);
            int many = space.readKind(image, info(Image.KIND), memberTypes, 0);
            result = memberTypes[0];
            int n = 0;
            if (info(Image.FIXED) == 0) {
                locals[0] = c;
                n = 1;
            }
            System.arraycopy(memberTypes, 1, locals, n, many);
        }

        private int proveStates() {
            boolean reached = true;
            int pc = 0;
            while (pc < length) {
                int op = codeAt(pc);
                int number = proveState(pc, op, reached);
                if (number != 0) {
                    return at(number, pc);
                }
                reached = !isLast(op);
                pc += Math.max(1, widthOf(op));
            }
            return reached ? at(NOT_REACHED, length) : 0;
        }

        private int proveState(int pc, int op, boolean reached) {
            int frame = frameAt(pc);
            if (!reached && frame < 0) {
                return NOT_REACHED;
            }
            if (frame >= 0) {
                if (reached && !fitsFrame(frame)) {
                    return NO_FIT;
                }
                takeFrame(frame);
            }
            if (!fitsHandlers(pc)) {
                return NO_FIT;
            }
            int arg = codeAt(pc + 1);
            if (!isConstantRight(op, arg)) {
                return NO_CONSTANT;
            }
            fitting = true;
            applySimple(op, arg);
            if (isJump(op) && fitting) {
                int aim = frameAt(aimOf(pc));
                fitting = aim >= 0 && fitsFrame(aim);
            }
            return fitting ? 0 : NO_FIT;
        }

        private boolean fits(int a, int b) {
            return b == Kin.TOP || kin.fits(a, b);
        }

        private boolean fitsLocals(int row) {
            boolean all = true;
            for (int n = 0; n < frames[row + 1] && all; n++) {
                all = fits(locals[n], frames[row + FRAME_LOCALS + n]);
            }
            return all;
        }

        private boolean fitsFrame(int frame) {
            int row = frame * FRAME_ROW;
            boolean all = frames[row + 2] == height && fitsLocals(row);
            for (int i = 0; i < height && all; i++) {
                all = fits(stack[i], frames[row + FRAME_STACK + i]);
            }
            return all;
        }

        private void takeFrame(int frame) {
            int row = frame * FRAME_ROW;
            Arrays.fill(locals, Kin.TOP);
            System.arraycopy(frames, row + FRAME_LOCALS, locals, 0, frames[row + 1]);
            height = frames[row + 2];
            System.arraycopy(frames, row + FRAME_STACK, stack, 0, height);
        }

        private boolean fitsHandlers(int pc) {
            boolean all = true;
            for (int h = 0; h < info(Image.HANDLERS) && all; h++) {
                if (pc >= handler(h, 0) && pc < handler(h, 2)) {
                    int row = frameAt(handler(h, 4)) * FRAME_ROW;
                    all = row >= 0 && fitsLocals(row) && frames[row + 2] == 1
                        && fits(handlerClass(h), frames[row + FRAME_STACK]);
                }
            }
            return all;
        }

        private boolean isConstantRight(int op, int arg) {
            switch (op) {
                case 18:
                    return image.tagOf(arg) == Image.INT;
                case 187:
                case 189:
                case 192:
                case 193:
                    return image.tagOf(arg) == Image.CLASS && Kin.isClass(classTypes[arg]);
                case 188:
                    return arg == 10;
                case 180:
                case 181:
                case 182:
                case 184:
                    return isMemberRight(op, arg);
                default:
                    return true;
            }
        }

        private boolean isMemberRight(int op, int k) {
            boolean isMethod = image.byteAt(image.textAt(image.partOf(k, 2))) == '(';
            int number = image.tagOf(k) == Image.MEMBER ? memberNumber[k] : NONE;
            Image owner = space.imageOfMember(number);
            if (owner == null || isMethod != (op >= 182)) {
                return false;
            }
            boolean fixed = isMethod && owner.of(number % Heads.MEMBERS_MOST, Image.FIXED) != 0;
            return fixed == (op == 184);
        }

        private int pop() {
            if (height == 0) {
                fitting = false;
                return Kin.TOP;
            }
            height--;
            return stack[height];
        }

        private void want(int type) {
            int given = pop();
            fitting = fitting && (type == Kin.TOP || kin.fits(given, type));
        }

        private int wantReference() {
            int given = pop();
            fitting = fitting && Kin.isReference(given);
            return given;
        }

        /** NULL, or an array (of ints, or of a class). */
        private int wantArray(boolean ofInts, boolean ofClass) {
            int given = pop();
            boolean right = given == Kin.NULL || (given == Kin.INTS ? ofInts : ofClass && Kin.isArray(given));
            fitting = fitting && right;
            return given;
        }

        private void push(int type) {
            if (height >= mostHeight) {
                fitting = false;
                return;
            }
            stack[height] = type;
            height++;
        }

        /** What an instruction wants and what comes in its place. */
        private void applySimple(int op, int arg) {
            if (op == 1) {
                push(Kin.NULL);
            } else if ((op >= 2 && op <= 8) || op == 16 || op == 18) {
                push(Kin.INT);
            } else if (isArithmetic(op)) {
                want(Kin.INT);
                want(Kin.INT);
                push(Kin.INT);
            } else if (op == 21 || op == 25 || op == 54 || op == 58) {
                applyLocal(op, arg);
            } else if (isJump(op)) {
                applyJump(op);
            } else if (op < 172) {
                applyArray(op);
            } else if (op < 180) {
                applyReturn(op);
            } else if (op <= 184) {
                applyMember(op, arg);
            } else {
                applyObject(op, arg);
            }
        }

        private void applyLocal(int op, int n) {
            if (n >= info(Image.LOCALS) || n >= locals.length) {
                fitting = false;
            } else if (op == 21 || op == 25) {
                boolean right = op == 21 ? locals[n] == Kin.INT : Kin.isReference(locals[n]);
                fitting = fitting && right;
                push(locals[n]);
            } else if (op == 54) {
                want(Kin.INT);
                locals[n] = Kin.INT;
            } else {
                locals[n] = wantReference();
            }
        }

        private void applyJump(int op) {
            if (op == 167) {
                return;
            }
            if (op == 165 || op == 166) {
                wantReference();
                wantReference();
                return;
            }
            want(Kin.INT);
            if (op >= 159) {
                want(Kin.INT);
            }
        }

        private void applyArray(int op) {
            switch (op) {
                case 46:
                    want(Kin.INT);
                    wantArray(true, false);
                    push(Kin.INT);
                    break;
                case 50:
                    want(Kin.INT);
                    int array = wantArray(false, true);
                    push(array == Kin.NULL ? Kin.NULL : Kin.elementOf(array));
                    break;
                case 79:
                    want(Kin.INT);
                    want(Kin.INT);
                    wantArray(true, false);
                    break;
                case 83:
                    wantReference();
                    want(Kin.INT);
                    wantArray(false, true);
                    break;
                case 87:
                    pop();
                    break;
                case 89:
                    int upper = pop();
                    push(upper);
                    push(upper);
                    break;
                case 116:
                    want(Kin.INT);
                    push(Kin.INT);
                    break;
                default:
                    break;
            }
        }

        private void applyReturn(int op) {
            if (op == 177) {
                fitting = result == Kin.VOID;
            } else if (op == 172) {
                want(Kin.INT);
                fitting = fitting && result == Kin.INT;
            } else {
                want(result);
                fitting = fitting && result != Kin.INT && result != Kin.VOID;
            }
        }

        private void applyMember(int op, int k) {
            int owner = classTypes[image.partOf(k, 0)];
            int row = k * KIND_ROW;
            switch (op) {
                case 180:
                    want(owner);
                    push(memberTypes[row]);
                    break;
                case 181:
                    want(memberTypes[row]);
                    want(owner);
                    break;
                default:
                    for (int p = memberParameters[k]; p > 0; p--) {
                        want(memberTypes[row + p]);
                    }
                    if (op == 182) {
                        want(owner);
                    }
                    if (memberTypes[row] != Kin.VOID) {
                        push(memberTypes[row]);
                    }
                    break;
            }
        }

        private void applyObject(int op, int arg) {
            switch (op) {
                case 186:
                    want(Kin.INT);
                    break;
                case 187:
                    push(classTypes[arg]);
                    break;
                case 188:
                    want(Kin.INT);
                    push(Kin.INTS);
                    break;
                case 189:
                    want(Kin.INT);
                    push(Kin.ARRAY + classTypes[arg]);
                    break;
                case 190:
                    wantArray(true, true);
                    push(Kin.INT);
                    break;
                case 191:
                    want(Kin.FAULT);
                    break;
                case 192:
                    wantReference();
                    push(classTypes[arg]);
                    break;
                default:
                    wantReference();
                    push(Kin.INT);
                    break;
            }
        }
    }

    /** Steps what has been verified. An object is told by its number from 1 on, null by 0. */
    private static final class Machine {
        static final int STEPS_MOST = 20000;

        private static final int UNBEGUN = 0;
        private static final int GOING = 1;
        private static final int GAVE = 2;
        private static final int THROWN = 3;
        private static final int ROOM = 4;
        private static final int DEPTH = 5;
        private static final int STUCK = 6;

        private static final int NULL_FAULT = 2;
        private static final int INDEX_FAULT = 3;
        private static final int ARITH_FAULT = 4;
        private static final int CAST_FAULT = 5;
        private static final int SIZE_FAULT = 6;
        private static final int STORE_FAULT = 7;

        private static final int OBJECTS_MOST = 2000;
        private static final int CELLS_MOST = 20000;
        private static final int METHODS_MOST = 60;
        private static final int PRINTS_KEPT = 1000;
        private static final int PLACES = Image.PLACES_MOST;

        private final Space space;
        private int state;
        private int gave;
        private int steps;
        private int objects;
        private int cells;
        private int depth;
        private int prints;
        private final int[] printed = new int[PRINTS_KEPT];
        private final int[] objectType = new int[OBJECTS_MOST + 1];
        /** Where in cell each object begins; it ends where the next one will. */
        private final int[] objectAt = new int[OBJECTS_MOST + 2];
        private final int[] cell = new int[CELLS_MOST];
        private final int[] methods = new int[METHODS_MOST];
        private final int[] places = new int[METHODS_MOST];
        private final int[] heights = new int[METHODS_MOST];
        private final int[] locals = new int[METHODS_MOST * PLACES];
        private final int[] stack = new int[METHODS_MOST * PLACES];
        /** Of the uppermost method: its number among those begun, its IMAGE and where its CODE is there. */
        private int top;
        private Image image;
        private int code;
        /** What the latest STEP throws: an object, or below 0 a new one of that class. */
        private int thrown;

        Machine(Space space) {
            this.space = space;
            image = new Image();
            gave = NONE;
        }

        void forget() {
            state = UNBEGUN;
            gave = NONE;
            steps = 0;
            objects = 0;
            cells = 0;
            depth = 0;
            prints = 0;
        }

        void beginRun(int c, int m) {
            forget();
            state = GOING;
            beginMethod((c - Kin.BUILT_IN) * Heads.MEMBERS_MOST + m, 0, 0);
        }

        int go(int n) {
            int done = 0;
            while (done < n && state == GOING) {
                step();
                if (thrown < 0) {
                    thrown = make(-thrown, 0);
                }
                if (thrown > 0) {
                    throwUp(thrown);
                }
                thrown = 0;
                done++;
            }
            steps += done;
            return done;
        }

        int tell(int what) {
            switch (what) {
                case 0:
                    return state;
                case 1:
                    return gave;
                case 2:
                    return steps;
                case 3:
                    return objects;
                case 4:
                    return cells;
                case 5:
                    return depth;
                case 6:
                    return prints;
                default:
                    return NONE;
            }
        }

        int tellTop(int what) {
            if (state != GOING) {
                return NONE;
            }
            switch (what) {
                case 7:
                    return Kin.BUILT_IN + methods[top] / Heads.MEMBERS_MOST;
                case 8:
                    return methods[top] % Heads.MEMBERS_MOST;
                case 9:
                    return places[top];
                case 10:
                    return heights[top];
                default:
                    return NONE;
            }
        }

        int printedAt(int i) {
            return i >= 0 && i < prints && i < PRINTS_KEPT ? printed[i] : 0;
        }

        /** A method that has its first locals from the stack of the one below. */
        private void beginMethod(int number, int from, int many) {
            if (depth >= METHODS_MOST) {
                state = DEPTH;
                return;
            }
            int into = depth * PLACES;
            Arrays.fill(locals, into, into + PLACES, 0);
            System.arraycopy(stack, from, locals, into, many);
            methods[depth] = number;
            places[depth] = 0;
            heights[depth] = 0;
            depth++;
            takeTop();
        }

        private void takeTop() {
            top = Math.max(0, depth - 1);
            Image taken = space.imageOfMember(methods[top]);
            if (taken == null) {
                state = STUCK;
                return;
            }
            image = taken;
            code = image.of(methods[top] % Heads.MEMBERS_MOST, Image.CODE);
        }

        private int link(int k) {
            return space.link(methods[top] / Heads.MEMBERS_MOST, k);
        }

        private void push(int value) {
            int height = heights[top];
            if (height >= PLACES) {
                state = STUCK;
                return;
            }
            stack[top * PLACES + height] = value;
            heights[top] = height + 1;
        }

        private int pop() {
            int height = heights[top] - 1;
            if (height < 0) {
                state = STUCK;
                return 0;
            }
            heights[top] = height;
            return stack[top * PLACES + height];
        }

        private void goOn(int far) {
            places[top] += far;
        }

        private void give(int value, int far) {
            push(value);
            goOn(far);
        }

        private void step() {
            int at = places[top];
            int op = image.byteAt(code + at);
            int arg = image.byteAt(code + at + 1);
            switch (op) {
                case 0:
                    goOn(1);
                    break;
                case 1:
                    give(0, 1);
                    break;
                case 2:
                case 3:
                case 4:
                case 5:
                case 6:
                case 7:
                case 8:
                    give(op - 3, 1);
                    break;
                case 16:
                    give((byte) arg, 2);
                    break;
                case 18:
                    give(link(arg), 2);
                    break;
                case 21:
                case 25:
                case 54:
                case 58:
                    stepLocal(op, arg);
                    break;
                case 87:
                    pop();
                    goOn(1);
                    break;
                case 89:
                    int upper = pop();
                    push(upper);
                    give(upper, 1);
                    break;
                case 116:
                    give(-pop(), 1);
                    break;
                default:
                    if (Verifier.isJump(op)) {
                        stepJump(op, at);
                    } else if (Verifier.isArithmetic(op)) {
                        stepArithmetic(op);
                    } else {
                        stepObject(op, arg);
                    }
                    break;
            }
        }

        private void stepLocal(int op, int n) {
            int i = top * PLACES + n;
            if (n >= PLACES) {
                state = STUCK;
            } else if (op == 21 || op == 25) {
                give(locals[i], 2);
            } else {
                locals[i] = pop();
                goOn(2);
            }
        }

        private void stepArithmetic(int op) {
            int b = pop();
            int a = pop();
            if (b == 0 && (op == 108 || op == 112)) {
                thrown = -ARITH_FAULT;
            } else {
                give(computed(op, a, b), 1);
            }
        }

        private static int computed(int op, int a, int b) {
            switch (op) {
                case 96:
                    return a + b;
                case 100:
                    return a - b;
                case 104:
                    return a * b;
                case 108:
                    return b == 0 ? 0 : a / b;
                case 112:
                    return b == 0 ? 0 : a % b;
                case 120:
                    return a << b;
                case 122:
                    return a >> b;
                case 124:
                    return a >>> b;
                case 126:
                    return a & b;
                case 128:
                    return a | b;
                default:
                    return a ^ b;
            }
        }

        private void stepJump(int op, int at) {
            boolean jumps = true;
            if (op == 153) {
                jumps = pop() == 0;
            } else if (op == 154) {
                jumps = pop() != 0;
            } else if (op != 167) {
                int b = pop();
                int a = pop();
                jumps = compares(op, a, b);
            }
            goOn(jumps ? (short) image.pairAt(code + at + 1) : 3);
        }

        private static boolean compares(int op, int a, int b) {
            switch (op) {
                case 159:
                case 165:
                    return a == b;
                case 160:
                case 166:
                    return a != b;
                case 161:
                    return a < b;
                case 162:
                    return a >= b;
                case 163:
                    return a > b;
                default:
                    return a <= b;
            }
        }

        private void stepObject(int op, int arg) {
            switch (op) {
                case 46:
                case 50:
                    stepElement();
                    break;
                case 79:
                case 83:
                    stepGiveElement(op);
                    break;
                case 172:
                case 176:
                case 177:
                    stepReturn(op);
                    break;
                case 180:
                    stepField(arg);
                    break;
                case 181:
                    stepGiveField(arg);
                    break;
                case 182:
                case 184:
                    stepCall(op, arg);
                    break;
                case 186:
                    stepPrint();
                    break;
                case 187:
                    giveNew(link(arg), space.cellsOf(link(arg)));
                    break;
                case 188:
                case 189:
                    stepNewArray(op == 188 ? Kin.INTS : Kin.ARRAY + link(arg));
                    break;
                case 190:
                    stepLength();
                    break;
                case 191:
                    stepThrow();
                    break;
                case 192:
                case 193:
                    stepKin(op, link(arg));
                    break;
                default:
                    state = STUCK;
                    break;
            }
        }

        private boolean isObject(int object) {
            return object > 0 && object <= objects && object <= OBJECTS_MOST;
        }

        /** Where in cell the element is; without one the fault is thrown, and it is NONE. */
        private int cellOf(int array, int index) {
            if (!isObject(array)) {
                thrown = -NULL_FAULT;
                return NONE;
            }
            if (index < 0 || index >= objectAt[array + 1] - objectAt[array]) {
                thrown = -INDEX_FAULT;
                return NONE;
            }
            return objectAt[array] + index;
        }

        private void stepElement() {
            int index = pop();
            int array = pop();
            int i = cellOf(array, index);
            if (i >= 0 && i < CELLS_MOST) {
                give(cell[i], 1);
            }
        }

        private void stepGiveElement(int op) {
            int value = pop();
            int index = pop();
            int array = pop();
            int i = cellOf(array, index);
            if (i < 0 || i >= CELLS_MOST) {
                return;
            }
            if (op == 83 && isObject(value) && !space.kin.fits(objectType[value], Kin.elementOf(objectType[array]))) {
                thrown = -STORE_FAULT;
                return;
            }
            cell[i] = value;
            goOn(1);
        }

        private int fieldCell(int object, int slot) {
            int i = isObject(object) ? objectAt[object] + slot : NONE;
            return slot >= 0 && i < CELLS_MOST ? i : NONE;
        }

        private void stepField(int arg) {
            int object = pop();
            int i = fieldCell(object, link(arg));
            if (i == NONE) {
                thrown = -NULL_FAULT;
            } else {
                give(cell[i], 2);
            }
        }

        private void stepGiveField(int arg) {
            int value = pop();
            int object = pop();
            int i = fieldCell(object, link(arg));
            if (i == NONE) {
                thrown = -NULL_FAULT;
            } else {
                cell[i] = value;
                goOn(2);
            }
        }

        private void stepCall(int op, int arg) {
            int number = link(arg);
            Image owner = space.imageOfMember(number);
            if (owner == null) {
                state = STUCK;
                return;
            }
            int many = owner.of(number % Heads.MEMBERS_MOST, Image.PARAMETERS) + (op == 182 ? 1 : 0);
            int from = heights[top] - many;
            if (from < 0) {
                state = STUCK;
                return;
            }
            if (op == 182) {
                int object = stack[top * PLACES + from];
                if (!isObject(object)) {
                    thrown = -NULL_FAULT;
                    return;
                }
                number = space.nearestTo(objectType[object], number);
            }
            heights[top] = from;
            beginMethod(number, top * PLACES + from, many);
        }

        private void stepReturn(int op) {
            int value = op == 177 ? 0 : pop();
            depth--;
            if (depth > 0) {
                takeTop();
                goOn(2);
                if (op != 177) {
                    push(value);
                }
                return;
            }
            state = GAVE;
            gave = op == 172 ? value : isObject(value) ? objectType[value] : NONE;
        }

        private void stepPrint() {
            int value = pop();
            if (prints < PRINTS_KEPT) {
                printed[prints] = value;
            }
            prints++;
            goOn(1);
        }

        /** A new object or array; 0, and the run has ended, if there is no ROOM for it. */
        private int make(int type, int size) {
            if (objects >= OBJECTS_MOST || size < 0 || size > CELLS_MOST - cells) {
                state = ROOM;
                return 0;
            }
            objects++;
            objectType[objects] = type;
            objectAt[objects] = cells;
            Arrays.fill(cell, cells, cells + size, 0);
            cells += size;
            objectAt[objects + 1] = cells;
            return objects;
        }

        private void giveNew(int type, int size) {
            int object = make(type, size);
            if (object != 0) {
                give(object, 2);
            }
        }

        private void stepNewArray(int type) {
            int size = pop();
            if (size < 0) {
                thrown = -SIZE_FAULT;
            } else {
                giveNew(type, size);
            }
        }

        private void stepLength() {
            int array = pop();
            if (isObject(array)) {
                give(objectAt[array + 1] - objectAt[array], 1);
            } else {
                thrown = -NULL_FAULT;
            }
        }

        private void stepKin(int op, int c) {
            int object = pop();
            boolean fitting = isObject(object) && space.kin.fits(objectType[object], c);
            if (op == 193) {
                give(fitting ? 1 : 0, 2);
            } else if (object == 0 || fitting) {
                give(object, 2);
            } else {
                thrown = -CAST_FAULT;
            }
        }

        private void stepThrow() {
            int object = pop();
            thrown = object == 0 ? -NULL_FAULT : object;
        }

        private void throwUp(int object) {
            if (!isObject(object)) {
                state = STUCK;
                return;
            }
            for (int turn = 0; turn < METHODS_MOST && depth > 0; turn++) {
                takeTop();
                if (isCaught(object)) {
                    return;
                }
                depth--;
            }
            state = THROWN;
            gave = objectType[object];
        }

        private boolean isCaught(int object) {
            int m = methods[top] % Heads.MEMBERS_MOST;
            int at = image.of(m, Image.HANDLERS_AT);
            for (int h = 0; h < image.of(m, Image.HANDLERS); h++) {
                boolean has = places[top] >= image.pairAt(at) && places[top] < image.pairAt(at + 2);
                if (has && space.kin.fits(objectType[object], link(image.byteAt(at + 6)))) {
                    heights[top] = 0;
                    give(object, image.pairAt(at + 4) - places[top]);
                    return true;
                }
                at += Image.HANDLER_BYTES;
            }
            return false;
        }
    }
}
