import java.util.Arrays;
import java.util.NoSuchElementException;

/** Fonts whose programs are sealed; DOC.md has the promises that it keeps. */
public final class TypeOne {
    private static final int MOST_BYTES = 2000;
    private static final int MOST_SIGNS = 64;
    private static final int MOST_SUBROUTINES = 64;
    private static final int MOST_CODES = 256;
    private static final int MOST_PROGRAM = 255;
    private static final int MOST_NAME = 12;
    private static final int MOST_MADE_NAME = 8;
    private static final int MOST_LEADS = 8;

    private static final int STACK_SIZE = 24;
    private static final int MOST_WITHIN = 10;
    private static final int MOST_PIECES = 200;
    private static final int MOST_STEPS = 2000;
    private static final int PIECE_CELLS = 7;
    private static final int FLEX_POINTS = 7;

    private static final int FILE_KEY = 55665;
    private static final int PROGRAM_KEY = 4330;
    private static final int USUAL_LEADS = 4;

    private static final int SLASH = 47;

    private static final int MOVE = 0;
    private static final int LINE = 1;
    private static final int CURVE = 2;
    private static final int CLOSED = 3;

    private static final int NO_FAULT = 0;
    private static final int NO_OPERATOR = 1;
    private static final int WRONG_NUMBERS = 2;
    private static final int TOO_MANY_NUMBERS = 3;
    private static final int NO_SUBROUTINE = 4;
    private static final int TOO_DEEP = 5;
    private static final int BYTES_END = 6;
    private static final int WRONG_FLEX = 7;
    private static final int BY_ZERO = 8;
    private static final int TOO_MANY_PIECES = 9;
    private static final int TOO_LONG = 10;
    private static final int SHELF_EMPTY = 11;
    private static final int WRONG_JOIN = 12;

    /** Operators of two bytes, 12 and another, are told as TWO plus the other. */
    private static final int TWO = 256;
    private static final int TAKES_FROM_TOP = -1;
    private static final int IS_NONE = -2;

    private final byte[] bytes;
    private int size;
    private Font font;
    private final Reader reader;
    private final Writer writer;
    private final Runner latest;
    /** Runs that only answer a question: the latest run's pieces and stack must stay. */
    private final Runner aside;

    public TypeOne() {
        bytes = new byte[MOST_BYTES];
        size = 0;
        font = new Font();
        reader = new Reader(bytes, font);
        writer = new Writer();
        latest = new Runner(font);
        aside = new Runner(font);
    }

    public void add(byte b) throws UnsupportedOperationException {
        if (size >= MOST_BYTES) {
            throw new UnsupportedOperationException();
        }
        bytes[size] = b;
        size++;
    }

    public int read() {
        Font found = reader.fontOf(size);
        size = 0;
        if (found == null) {
            return -1 - reader.fault;
        }
        font = found;
        return font.count;
    }

    public int sign(long w, int n) throws IllegalArgumentException, UnsupportedOperationException {
        if (n < 1 || n > MOST_MADE_NAME) {
            throw new IllegalArgumentException();
        }
        byte[] letters = new byte[n];
        for (int i = 0; i < n; i++) {
            letters[i] = (byte) (w >> (8 * i));
            if (!mayBeInName(letters[i])) {
                throw new IllegalArgumentException();
            }
        }
        Name name = new Name(letters);
        if (font.count >= MOST_SIGNS || font.indexOf(name) >= 0) {
            throw new UnsupportedOperationException();
        }
        font.append(new Sign(name, new Program(new byte[0])));
        return font.count - 1;
    }

    public int code(int sign, byte b) throws NoSuchElementException, UnsupportedOperationException {
        Sign s = font.signAt(sign);
        if (s == null) {
            throw new NoSuchElementException();
        }
        if (!s.program.append(b)) {
            throw new UnsupportedOperationException();
        }
        return s.program.size;
    }

    public int subroutine(int n, byte b) throws IndexOutOfBoundsException, UnsupportedOperationException {
        if (n < 0 || n >= MOST_SUBROUTINES) {
            throw new IndexOutOfBoundsException();
        }
        Program program = font.subroutines[n];
        if (program == null) {
            program = new Program(new byte[0]);
            font.subroutines[n] = program;
        }
        if (!program.append(b)) {
            throw new UnsupportedOperationException();
        }
        return program.size;
    }

    public void encode(int code, int sign) throws IndexOutOfBoundsException, NoSuchElementException {
        if (code < 0 || code >= MOST_CODES) {
            throw new IndexOutOfBoundsException();
        }
        if (sign == -1) {
            font.encoding[code] = null;
            return;
        }
        Sign s = font.signAt(sign);
        if (s == null) {
            throw new NoSuchElementException();
        }
        font.encoding[code] = s.name;
    }

    public int encoded(int code) throws IndexOutOfBoundsException {
        if (code < 0 || code >= MOST_CODES) {
            throw new IndexOutOfBoundsException();
        }
        return font.indexAtCode(code);
    }

    public int told(int sign, int what) throws NoSuchElementException, IndexOutOfBoundsException {
        Sign s = font.signAt(sign);
        if (s == null) {
            throw new NoSuchElementException();
        }
        if (what == -1) {
            return s.name.letters.length;
        }
        if (what == -2) {
            return s.program.size;
        }
        int b = what >= 100 ? s.program.byteAt(what - 100) : s.name.letterAt(what);
        if (b < 0) {
            throw new IndexOutOfBoundsException();
        }
        return b;
    }

    public int run(int sign) throws NoSuchElementException {
        Sign s = font.signAt(sign);
        if (s == null) {
            throw new NoSuchElementException();
        }
        int fault = latest.playSign(font, s);
        return fault == NO_FAULT ? latest.pieces.count : -fault;
    }

    public int piece(int i, int what) throws IndexOutOfBoundsException {
        if (i < 0 || i >= latest.pieces.count || what < 0 || what >= PIECE_CELLS) {
            throw new IndexOutOfBoundsException();
        }
        return latest.pieces.cells[i * PIECE_CELLS + what];
    }

    public int width(int sign) throws NoSuchElementException {
        Sign s = font.signAt(sign);
        if (s == null) {
            throw new NoSuchElementException();
        }
        aside.playSign(font, s);
        return aside.wide;
    }

    public int stack(int i) throws ArrayIndexOutOfBoundsException {
        if (i < 0 || i >= STACK_SIZE) {
            throw new ArrayIndexOutOfBoundsException();
        }
        return latest.own.numbers[i];
    }

    public int joined(int sign, int i) throws NoSuchElementException, IndexOutOfBoundsException {
        Sign s = font.signAt(sign);
        if (s == null) {
            throw new NoSuchElementException();
        }
        if (i < 0 || i > 1) {
            throw new IndexOutOfBoundsException();
        }
        aside.playSign(font, s);
        return i == 0 ? aside.first : aside.second;
    }

    public int cut(int sign) throws NoSuchElementException {
        if (font.signAt(sign) == null) {
            throw new NoSuchElementException();
        }
        if (isJoinedByAnother(sign)) {
            return -1;
        }
        font.remove(sign);
        return font.count;
    }

    public int seal() {
        writer.writeFont(font);
        return writer.size;
    }

    public byte octet(int i) throws ArrayIndexOutOfBoundsException {
        if (i < 0 || i >= writer.size) {
            throw new ArrayIndexOutOfBoundsException();
        }
        return writer.row[i];
    }

    public int take() {
        size = Math.min(writer.size, MOST_BYTES);
        System.arraycopy(writer.row, 0, bytes, 0, size);
        return size;
    }

    private boolean isJoinedByAnother(int sign) {
        for (int i = 0; i < font.count; i++) {
            Sign other = font.signAt(i);
            if (i != sign && other != null) {
                aside.playSign(font, other);
                if (aside.first == sign || aside.second == sign) {
                    return true;
                }
            }
        }
        return false;
    }

    private static boolean mayBeInName(byte b) {
        return b > 32 && b < 127 && b != SLASH;
    }

    private static int nextKey(int key, int sealedByte) {
        return ((sealedByte + key) * 52845 + 22719) & 65535;
    }

    /** In place, the leads too; from and to lie within the row. */
    private static void unsealRow(byte[] row, int from, int to, int firstKey) {
        int key = firstKey;
        for (int i = from; i < to; i++) {
            int c = row[i] & 255;
            row[i] = (byte) (c ^ (key >> 8));
            key = nextKey(key, c);
        }
    }

    /** In place, the leads too; from and to lie within the row. */
    private static void sealRow(byte[] row, int from, int to, int firstKey) {
        int key = firstKey;
        for (int i = from; i < to; i++) {
            int c = (row[i] & 255) ^ (key >> 8);
            row[i] = (byte) c;
            key = nextKey(key, c);
        }
    }

    /** A name never changes, so signs and the encoding may share one. */
    private static final class Name {
        final byte[] letters;

        Name(byte[] letters) {
            this.letters = letters;
        }

        boolean isSame(Name other) {
            if (letters.length != other.letters.length) {
                return false;
            }
            for (int i = 0; i < letters.length && i < other.letters.length; i++) {
                if (letters[i] != other.letters[i]) {
                    return false;
                }
            }
            return true;
        }

        /** -1 where the name has no byte. */
        int letterAt(int i) {
            return i < 0 || i >= letters.length ? -1 : letters[i];
        }
    }

    /** Plain bytes, without leads. */
    private static final class Program {
        byte[] row;
        int size;

        Program(byte[] row) {
            this.row = row;
            size = row.length;
        }

        boolean append(byte b) {
            if (size >= MOST_PROGRAM) {
                return false;
            }
            if (size >= row.length) {
                row = Arrays.copyOf(row, Math.min(MOST_PROGRAM, 2 * size + 8));
            }
            row[size] = b;
            size++;
            return true;
        }

        /** 0 .. 255, or -1 where the program has no byte. */
        int byteAt(int i) {
            return i < 0 || i >= size ? -1 : row[i] & 255;
        }
    }

    private static final class Sign {
        final Name name;
        Program program;

        Sign(Name name, Program program) {
            this.name = name;
            this.program = program;
        }
    }

    private static final class Font {
        final Sign[] signs;
        int count;
        final Program[] subroutines;
        final Name[] encoding;

        Font() {
            signs = new Sign[MOST_SIGNS];
            count = 0;
            subroutines = new Program[MOST_SUBROUTINES];
            encoding = new Name[MOST_CODES];
        }

        /** Null where there is no such sign. */
        Sign signAt(int i) {
            return i < 0 || i >= count ? null : signs[i];
        }

        int indexOf(Name name) {
            for (int i = 0; i < count; i++) {
                Sign s = signs[i];
                if (s != null && s.name.isSame(name)) {
                    return i;
                }
            }
            return -1;
        }

        /** -1 for a code that is none, too. */
        int indexAtCode(int code) {
            if (code < 0 || code >= MOST_CODES) {
                return -1;
            }
            Name name = encoding[code];
            return name == null ? -1 : indexOf(name);
        }

        /** Null for a number that is none, too; one without bytes is none, as it would not be written. */
        Program subroutineAt(int n) {
            if (n < 0 || n >= MOST_SUBROUTINES) {
                return null;
            }
            Program program = subroutines[n];
            return program == null || program.size == 0 ? null : program;
        }

        void append(Sign s) {
            if (count < MOST_SIGNS) {
                signs[count] = s;
                count++;
            }
        }

        void remove(int index) {
            if (index < 0 || index >= count) {
                return;
            }
            for (int i = index; i + 1 < count; i++) {
                signs[i] = signs[i + 1];
            }
            count--;
            signs[count] = null;
        }
    }

    /** Reads a file; it unseals it in place, as the bytes are taken by reading. */
    private static final class Reader {
        final byte[] file;
        int size;
        int place;
        int begin;
        int end;
        int leads;
        int fault;
        Font font;

        Reader(byte[] file, Font font) {
            this.file = file;
            this.font = font;
        }

        /** Null when there is a fault, whose place then stands in fault. */
        Font fontOf(int fileSize) {
            size = fileSize;
            place = 0;
            leads = USUAL_LEADS;
            fault = -1;
            font = new Font();
            readClearPart();
            if (fault < 0) {
                unsealText();
            }
            if (fault < 0) {
                readText();
            }
            return fault < 0 ? font : null;
        }

        private void readClearPart() {
            boolean inEncoding = false;
            for (int i = 0; i <= size && fault < 0; i++) {
                if (!nextToken()) {
                    fault = size;
                } else if (inEncoding) {
                    if (isWord("dup")) {
                        readEncodingEntry();
                    } else if (isWord("def")) {
                        inEncoding = false;
                    }
                } else if (isWord("/Encoding")) {
                    inEncoding = true;
                } else if (isWord("eexec")) {
                    return;
                }
            }
        }

        private void readEncodingEntry() {
            int code = numberWithin(0, MOST_CODES - 1);
            if (fault >= 0) {
                return;
            }
            Name name = nextToken() ? tokenAsName() : null;
            if (name == null) {
                blameToken();
                return;
            }
            if (!nextToken() || !isWord("put")) {
                blameToken();
                return;
            }
            font.encoding[code] = name;
        }

        private void unsealText() {
            int from = place + 1;
            if (from + USUAL_LEADS > size) {
                fault = size;
                return;
            }
            unsealRow(file, from, size, FILE_KEY);
            place = from + USUAL_LEADS;
        }

        private void readText() {
            boolean inSubroutines = false;
            for (int i = 0; i <= size && fault < 0; i++) {
                if (!nextToken()) {
                    fault = size;
                } else if (isWord("/lenIV")) {
                    leads = numberWithin(0, MOST_LEADS);
                } else if (isWord("/Subrs")) {
                    inSubroutines = true;
                } else if (isWord("/CharStrings")) {
                    readSigns();
                    return;
                } else if (inSubroutines && isWord("dup")) {
                    readSubroutine();
                }
            }
        }

        private void readSubroutine() {
            int n = numberWithin(0, MOST_SUBROUTINES - 1);
            if (fault >= 0) {
                return;
            }
            Program program = nextProgram();
            if (program != null) {
                font.subroutines[n] = program;
            }
        }

        private void readSigns() {
            for (int i = 0; i <= size && fault < 0; i++) {
                if (!nextToken()) {
                    fault = size;
                    return;
                }
                if (isWord("end")) {
                    return;
                }
                Name name = tokenAsName();
                if (name != null) {
                    readSignNamed(name);
                }
            }
        }

        private void readSignNamed(Name name) {
            int index = font.indexOf(name);
            if (index < 0 && font.count >= MOST_SIGNS) {
                fault = begin;
                return;
            }
            Program program = nextProgram();
            if (program == null) {
                return;
            }
            Sign known = font.signAt(index);
            if (known == null) {
                font.append(new Sign(name, program));
            } else {
                known.program = program;
            }
        }

        /** Null when there is a fault. */
        private Program nextProgram() {
            int n = numberWithin(leads, leads + MOST_PROGRAM);
            if (fault >= 0) {
                return null;
            }
            if (!nextToken() || place + 1 + n > size) {
                fault = size;
                return null;
            }
            int from = place + 1;
            place = from + n;
            unsealRow(file, from, place, PROGRAM_KEY);
            return new Program(Arrays.copyOfRange(file, from + leads, place));
        }

        /** False when there is no more; begin and end are the size then. */
        private boolean nextToken() {
            int i = place;
            while (i < size && (file[i] & 255) <= 32) {
                i++;
            }
            begin = i;
            while (i < size && (file[i] & 255) > 32) {
                i++;
            }
            end = i;
            place = i;
            return begin < end;
        }

        /** A token that never came begins at the file's size, which is its fault's place. */
        private void blameToken() {
            fault = begin;
        }

        private boolean isWord(String word) {
            if (end - begin != word.length()) {
                return false;
            }
            for (int i = 0; i < word.length(); i++) {
                if ((file[begin + i] & 255) != word.charAt(i)) {
                    return false;
                }
            }
            return true;
        }

        /** Null when the token is no name. */
        private Name tokenAsName() {
            int n = end - begin - 1;
            if (n < 1 || n > MOST_NAME || file[begin] != SLASH) {
                return null;
            }
            for (int i = begin + 1; i < end; i++) {
                if (!mayBeInName(file[i])) {
                    return null;
                }
            }
            return new Name(Arrays.copyOfRange(file, begin + 1, end));
        }

        /** -1 and a fault when the next token is no such number. */
        private int numberWithin(int low, int high) {
            int n = nextToken() ? tokenAsNumber() : -1;
            if (n < low || n > high) {
                blameToken();
                return -1;
            }
            return n;
        }

        /** -1 when the token is no number. */
        private int tokenAsNumber() {
            if (end - begin > 4) {
                return -1;
            }
            int n = 0;
            for (int i = begin; i < end; i++) {
                int digit = file[i] - '0';
                if (digit < 0 || digit > 9) {
                    return -1;
                }
                n = n * 10 + digit;
            }
            return n;
        }
    }

    /** Writes a font; the row stays for octet and take till the next one is written. */
    private static final class Writer {
        byte[] row = new byte[256];
        int size;

        void writeFont(Font font) {
            size = 0;
            writeText("%!\n/Encoding");
            writeEncoding(font);
            writeText(" def eexec ");
            int from = size;
            writeLeads();
            writeText("/lenIV 4 /Subrs ");
            writeSubroutines(font);
            writeText("/CharStrings ");
            writeSigns(font);
            writeText("end ");
            sealRow(row, from, size, FILE_KEY);
        }

        private void writeEncoding(Font font) {
            for (int i = 0; i < MOST_CODES; i++) {
                Name name = font.encoding[i];
                if (name != null) {
                    writeText(" dup ");
                    writeNumber(i);
                    writeText(" /");
                    writeName(name);
                    writeText(" put");
                }
            }
        }

        private void writeSubroutines(Font font) {
            for (int i = 0; i < MOST_SUBROUTINES; i++) {
                Program program = font.subroutineAt(i);
                if (program != null) {
                    writeText("dup ");
                    writeNumber(i);
                    writeProgram(program);
                }
            }
        }

        private void writeSigns(Font font) {
            for (int i = 0; i < font.count; i++) {
                Sign s = font.signAt(i);
                if (s != null) {
                    writeText("/");
                    writeName(s.name);
                    writeProgram(s.program);
                }
            }
        }

        private void writeProgram(Program program) {
            writeText(" ");
            writeNumber(USUAL_LEADS + program.size);
            writeText(" RD ");
            int from = size;
            writeLeads();
            for (int i = 0; i < program.size; i++) {
                writeByte(program.byteAt(i));
            }
            sealRow(row, from, size, PROGRAM_KEY);
            writeText(" ");
        }

        private void writeLeads() {
            for (int i = 0; i < USUAL_LEADS; i++) {
                writeByte(0);
            }
        }

        private void writeName(Name name) {
            for (int i = 0; i < name.letters.length; i++) {
                writeByte(name.letters[i]);
            }
        }

        private void writeText(String text) {
            for (int i = 0; i < text.length(); i++) {
                writeByte(text.charAt(i));
            }
        }

        /** Numbers here are 0 .. 259. */
        private void writeNumber(int n) {
            if (n >= 100) {
                writeByte('0' + n / 100);
            }
            if (n >= 10) {
                writeByte('0' + n / 10 % 10);
            }
            writeByte('0' + n % 10);
        }

        private void writeByte(int b) {
            if (size >= row.length) {
                row = Arrays.copyOf(row, 2 * size + 256);
            }
            row[size] = (byte) b;
            size++;
        }
    }

    private static final class Pieces {
        final int[] cells = new int[MOST_PIECES * PIECE_CELLS];
        int count;
        int shiftX;
        int shiftY;

        void clear() {
            count = 0;
            shiftX = 0;
            shiftY = 0;
        }

        /** The end, then the controls, which only a curve has. */
        int put(int kind, int x, int y, int x1, int y1, int x2, int y2) {
            if (count >= MOST_PIECES) {
                return TOO_MANY_PIECES;
            }
            int at = count * PIECE_CELLS;
            boolean curve = kind == CURVE;
            cells[at] = kind;
            cells[at + 1] = x + shiftX;
            cells[at + 2] = y + shiftY;
            cells[at + 3] = curve ? x1 + shiftX : 0;
            cells[at + 4] = curve ? y1 + shiftY : 0;
            cells[at + 5] = curve ? x2 + shiftX : 0;
            cells[at + 6] = curve ? y2 + shiftY : 0;
            count++;
            return NO_FAULT;
        }
    }

    /** What one program has for itself while it is run: a sign that is joined has its own. */
    private static final class Desk {
        final boolean isOfPart;
        final int[] numbers = new int[STACK_SIZE];
        int count;
        final int[] shelf = new int[STACK_SIZE];
        int shelved;
        final int[] flex = new int[2 * FLEX_POINTS];
        /** How many points the open flex has; -1 when none is open. */
        int flexed = -1;
        final Program[] callers = new Program[MOST_WITHIN];
        final int[] returns = new int[MOST_WITHIN];
        int depth;
        Program program = new Program(new byte[0]);
        int place;
        int x;
        int y;
        boolean ended;

        Desk(boolean isOfPart) {
            this.isOfPart = isOfPart;
        }

        void begin(Program first) {
            Arrays.fill(numbers, 0);
            count = 0;
            shelved = 0;
            flexed = -1;
            depth = 0;
            program = first;
            place = 0;
            x = 0;
            y = 0;
            ended = false;
        }

        /** -1 when the bytes end. */
        int nextByte() {
            int b = program.byteAt(place);
            place++;
            return b;
        }

        int push(int n) {
            if (count >= STACK_SIZE) {
                return TOO_MANY_NUMBERS;
            }
            numbers[count] = n;
            count++;
            return NO_FAULT;
        }

        int putOnShelf(int n) {
            if (shelved >= STACK_SIZE) {
                return TOO_MANY_NUMBERS;
            }
            shelf[shelved] = n;
            shelved++;
            return NO_FAULT;
        }

        int call(Program callee) {
            if (depth >= MOST_WITHIN) {
                return TOO_DEEP;
            }
            callers[depth] = program;
            returns[depth] = place;
            depth++;
            program = callee;
            place = 0;
            return NO_FAULT;
        }

        void comeBack() {
            if (depth <= 0) {
                ended = true;
                return;
            }
            depth--;
            Program caller = callers[depth];
            if (caller != null) {
                program = caller;
            }
            place = returns[depth];
        }
    }

    /** Runs a sign and, behind it, the two that it joins. */
    private static final class Runner {
        final Pieces pieces = new Pieces();
        final Desk own = new Desk(false);
        final Desk part = new Desk(true);
        Desk desk = own;
        Font font;
        int steps;
        int side;
        int wide;
        boolean joins;
        int firstCode;
        int secondCode;
        int first = -1;
        int second = -1;
        int shiftX;
        int shiftY;

        Runner(Font font) {
            this.font = font;
        }

        int playSign(Font from, Sign sign) {
            font = from;
            pieces.clear();
            steps = 0;
            side = 0;
            wide = 0;
            joins = false;
            first = -1;
            second = -1;
            int fault = play(own, sign.program);
            if (fault != NO_FAULT || !joins) {
                return fault;
            }
            findJoined();
            Sign a = font.signAt(first);
            Sign b = font.signAt(second);
            if (a == null || b == null) {
                return WRONG_JOIN;
            }
            fault = play(part, a.program);
            if (fault != NO_FAULT) {
                return fault;
            }
            pieces.shiftX = shiftX;
            pieces.shiftY = shiftY;
            return play(part, b.program);
        }

        /** Both, or none: a sign joins two or does not join. */
        private void findJoined() {
            int one = font.indexAtCode(firstCode);
            int other = font.indexAtCode(secondCode);
            if (one >= 0 && other >= 0) {
                first = one;
                second = other;
            }
        }

        private int play(Desk with, Program program) {
            desk = with;
            desk.begin(program);
            for (int i = 0; i <= MOST_STEPS && !desk.ended; i++) {
                int b = desk.nextByte();
                if (b < 0) {
                    return BYTES_END;
                }
                if (steps >= MOST_STEPS) {
                    return TOO_LONG;
                }
                steps++;
                int fault = b >= 32 ? pushNumber(b) : operate(b);
                if (fault != NO_FAULT) {
                    return fault;
                }
            }
            return NO_FAULT;
        }

        private int pushNumber(int b) {
            if (b <= 246) {
                return desk.push(b - 139);
            }
            if (b == 255) {
                return pushLongNumber();
            }
            int low = desk.nextByte();
            if (low < 0) {
                return BYTES_END;
            }
            if (b <= 250) {
                return desk.push((b - 247) * 256 + low + 108);
            }
            return desk.push((251 - b) * 256 - low - 108);
        }

        private int pushLongNumber() {
            int n = 0;
            for (int i = 0; i < 4; i++) {
                int b = desk.nextByte();
                if (b < 0) {
                    return BYTES_END;
                }
                n = (n << 8) | b;
            }
            return desk.push(n);
        }

        private int operate(int b) {
            int op = b;
            if (b == 12) {
                int other = desk.nextByte();
                if (other < 0) {
                    return BYTES_END;
                }
                op = TWO + other;
            }
            int needed = numbersOf(op);
            if (needed == IS_NONE) {
                return NO_OPERATOR;
            }
            if (needed == TAKES_FROM_TOP) {
                return op == TWO + 16 ? callOther() : workFromTop(op);
            }
            if (desk.count != needed) {
                return WRONG_NUMBERS;
            }
            desk.count = 0;
            return workOnAll(op, desk.numbers);
        }

        private static int numbersOf(int op) {
            switch (op) {
                case 9: case 14: case TWO:
                    return 0;
                case 4: case 6: case 7: case 22:
                    return 1;
                case 1: case 3: case 5: case 13: case 21: case TWO + 33:
                    return 2;
                case 30: case 31: case TWO + 7:
                    return 4;
                case TWO + 6:
                    return 5;
                case 8: case TWO + 1: case TWO + 2:
                    return 6;
                case 10: case 11: case TWO + 12: case TWO + 16: case TWO + 17:
                    return TAKES_FROM_TOP;
                default:
                    return IS_NONE;
            }
        }

        /** n is the stack: its numbers are taken, yet still stand there. */
        private int workOnAll(int op, int[] n) {
            switch (op) {
                case 4:
                    return moveBy(0, n[0]);
                case 5:
                    return lineBy(n[0], n[1]);
                case 6:
                    return lineBy(n[0], 0);
                case 7:
                    return lineBy(0, n[0]);
                case 8:
                    return curveBy(n[0], n[1], n[2], n[3], n[4], n[5]);
                case 9:
                    return pieces.put(CLOSED, desk.x, desk.y, 0, 0, 0, 0);
                case 13:
                    return startAt(n[0], 0, n[1]);
                case 14:
                    desk.ended = true;
                    return NO_FAULT;
                case 21:
                    return moveBy(n[0], n[1]);
                case 22:
                    return moveBy(n[0], 0);
                case 30:
                    return curveBy(0, n[0], n[1], n[2], n[3], 0);
                case 31:
                    return curveBy(n[0], 0, n[1], n[2], 0, n[3]);
                case TWO + 6:
                    return join(n[0], n[1], n[2], n[3], n[4]);
                case TWO + 7:
                    return startAt(n[0], n[1], n[2]);
                case TWO + 33:
                    desk.x = n[0];
                    desk.y = n[1];
                    return NO_FAULT;
                default:
                    return NO_FAULT;
            }
        }

        private int workFromTop(int op) {
            switch (op) {
                case 10:
                    return callSubroutine();
                case 11:
                    desk.comeBack();
                    return NO_FAULT;
                case TWO + 12:
                    return divide();
                default:
                    return fetchFromShelf();
            }
        }

        /** Signs that are joined leave the width and the side as they were. */
        private int startAt(int x, int y, int w) {
            desk.x = x;
            desk.y = y;
            if (!desk.isOfPart) {
                side = x;
                wide = w;
            }
            return NO_FAULT;
        }

        private int moveBy(int dx, int dy) {
            desk.x += dx;
            desk.y += dy;
            if (desk.flexed >= 0) {
                return NO_FAULT;
            }
            return pieces.put(MOVE, desk.x, desk.y, 0, 0, 0, 0);
        }

        private int lineBy(int dx, int dy) {
            desk.x += dx;
            desk.y += dy;
            return pieces.put(LINE, desk.x, desk.y, 0, 0, 0, 0);
        }

        private int curveBy(int dx1, int dy1, int dx2, int dy2, int dx3, int dy3) {
            int x1 = desk.x + dx1;
            int y1 = desk.y + dy1;
            int x2 = x1 + dx2;
            int y2 = y1 + dy2;
            desk.x = x2 + dx3;
            desk.y = y2 + dy3;
            return pieces.put(CURVE, desk.x, desk.y, x1, y1, x2, y2);
        }

        /** The two are run when the sign's own program has ended, which is here: so runs never nest. */
        private int join(int a, int dx, int dy, int b, int c) {
            if (desk.isOfPart) {
                return WRONG_JOIN;
            }
            joins = true;
            firstCode = b;
            secondCode = c;
            shiftX = side - a + dx;
            shiftY = dy;
            desk.ended = true;
            return NO_FAULT;
        }

        private int callSubroutine() {
            if (desk.count < 1) {
                return WRONG_NUMBERS;
            }
            desk.count--;
            Program callee = font.subroutineAt(desk.numbers[desk.count]);
            return callee == null ? NO_SUBROUTINE : desk.call(callee);
        }

        private int divide() {
            if (desk.count < 2) {
                return WRONG_NUMBERS;
            }
            int by = desk.numbers[desk.count - 1];
            if (by == 0) {
                return BY_ZERO;
            }
            desk.numbers[desk.count - 2] = desk.numbers[desk.count - 2] / by;
            desk.count--;
            return NO_FAULT;
        }

        private int fetchFromShelf() {
            if (desk.shelved < 1) {
                return SHELF_EMPTY;
            }
            int fault = desk.push(desk.shelf[desk.shelved - 1]);
            desk.shelved--;
            return fault;
        }

        private int callOther() {
            if (desk.count < 2) {
                return WRONG_NUMBERS;
            }
            int n = desk.numbers[desk.count - 2];
            int k = desk.numbers[desk.count - 1];
            if (n < 0 || n > desk.count - 2 || !mayTake(k, n)) {
                return WRONG_NUMBERS;
            }
            int from = desk.count - 2 - n;
            desk.count = from;
            if (k == 0) {
                return closeFlex(desk.numbers[from + 1], desk.numbers[from + 2]);
            }
            if (k == 1) {
                desk.flexed = 0;
                return NO_FAULT;
            }
            return k == 2 ? addFlexPoint() : putAllOnShelf(from, n);
        }

        private static boolean mayTake(int k, int n) {
            if (k == 0) {
                return n == 3;
            }
            return n == 0 || k != 1 && k != 2;
        }

        private int closeFlex(int x, int y) {
            if (desk.flexed != FLEX_POINTS) {
                return WRONG_FLEX;
            }
            int[] p = desk.flex;
            int fault = pieces.put(CURVE, p[6], p[7], p[2], p[3], p[4], p[5]);
            if (fault == NO_FAULT) {
                fault = pieces.put(CURVE, p[12], p[13], p[8], p[9], p[10], p[11]);
            }
            desk.flexed = -1;
            if (fault == NO_FAULT) {
                fault = desk.putOnShelf(y);
            }
            return fault == NO_FAULT ? desk.putOnShelf(x) : fault;
        }

        private int addFlexPoint() {
            if (desk.flexed < 0 || desk.flexed >= FLEX_POINTS) {
                return WRONG_FLEX;
            }
            desk.flex[2 * desk.flexed] = desk.x;
            desk.flex[2 * desk.flexed + 1] = desk.y;
            desk.flexed++;
            return NO_FAULT;
        }

        private int putAllOnShelf(int from, int n) {
            for (int i = from + n - 1; i >= from; i--) {
                int fault = desk.putOnShelf(desk.numbers[i]);
                if (fault != NO_FAULT) {
                    return fault;
                }
            }
            return NO_FAULT;
        }
    }
}
