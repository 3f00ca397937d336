import java.util.NoSuchElementException;

/** The edges of the calls themselves: refused ones change nothing, and which exception comes first. */
public final class CallEdgeTest {
    private static final Class<?> ILLEGAL = IllegalArgumentException.class;
    private static final Class<?> UNSUPPORTED = UnsupportedOperationException.class;
    private static final Class<?> NO_SIGN = NoSuchElementException.class;
    private static final Class<?> INDEX = IndexOutOfBoundsException.class;
    private static final Class<?> ARRAY = ArrayIndexOutOfBoundsException.class;
    private static final int[] FAR = {Integer.MIN_VALUE, Integer.MIN_VALUE + 1, -65536, -2, 65536, Integer.MAX_VALUE - 1,
        Integer.MAX_VALUE};

    public static void main(String[] args) {
        farNumbers();
        whichComesFirst();
        refusedChangesNothing();
        refusedWhenFull();
        cutRefusedChangesNothing();
        namesOfSigns();
        encodingByName();
        cutMovesUp();
        cutByRuns();
        questionsChangeNothing();
        latestRun();
        lastWritten();
        Check.end();
    }

    private static int n(int value) {
        return Check.n(value);
    }

    private static void farNumbers() {
        TypeOne x = new TypeOne();
        Check.sign(x, "A", 9, 14);
        x.run(0);
        x.seal();
        for (int far : FAR) {
            String what = " of " + far;
            Check.thrown("4 n" + what, ILLEGAL, () -> x.sign(65, far));
            Check.thrown("5 sign" + what, NO_SIGN, () -> x.code(far, (byte) 1));
            Check.thrown("6 n" + what, INDEX, () -> x.subroutine(far, (byte) 1));
            Check.thrown("7 code" + what, INDEX, () -> x.encode(far, 0));
            Check.thrown("7 sign" + what, NO_SIGN, () -> x.encode(0, far));
            Check.thrown("8 code" + what, INDEX, () -> x.encoded(far));
            Check.thrown("9 sign" + what, NO_SIGN, () -> x.told(far, -1));
            Check.thrown("10 sign" + what, NO_SIGN, () -> x.run(far));
            Check.thrown("11 piece" + what, INDEX, () -> x.piece(far, 0));
            Check.thrown("11 what" + what, INDEX, () -> x.piece(0, far));
            Check.thrown("12 sign" + what, NO_SIGN, () -> x.width(far));
            Check.thrown("13 place" + what, ARRAY, () -> x.stack(far));
            Check.thrown("14 sign" + what, NO_SIGN, () -> x.joined(far, 0));
            Check.thrown("14 i" + what, INDEX, () -> x.joined(0, far));
            Check.thrown("15 sign" + what, NO_SIGN, () -> x.cut(far));
            Check.thrown("17 octet" + what, ARRAY, () -> x.octet(far));
            if (far != -2) {
                Check.thrown("9 what" + what, INDEX, () -> x.told(0, far));
            }
        }
    }

    private static void whichComesFirst() {
        TypeOne x = new TypeOne();
        Check.thrown("4 n and byte", ILLEGAL, () -> x.sign(0, 0));
        Check.thrown("7 code and sign", INDEX, () -> x.encode(-1, 0));
        Check.thrown("9 sign and what", NO_SIGN, () -> x.told(0, -3));
        Check.thrown("14 sign and i", NO_SIGN, () -> x.joined(0, -1));
        Check.thrown("6 n before the size", INDEX, () -> x.subroutine(64, (byte) 0));
        for (int i = 0; i < 64; i++) {
            x.sign(33 + i % 14 | (48 + i / 14) << 8, 2);
        }
        Check.thrown("4 a wrong byte before the 65th", ILLEGAL, () -> x.sign(' ', 1));
        Check.thrown("4 a wrong n before the 65th", ILLEGAL, () -> x.sign('A', 9));
        Check.thrown("4 a 65th that is there already", UNSUPPORTED, () -> x.sign(33 | 48 << 8, 2));
        Check.thrown("4 a 65th", UNSUPPORTED, () -> x.sign('A', 1));
        Check.due("15 room for one", x.cut(0), 63);
        Check.thrown("4 there already", UNSUPPORTED, () -> x.sign(34 | 48 << 8, 2));
        Check.due("4 the 64th", x.sign('A', 1), 63);
    }

    private static String stateOf(TypeOne x) {
        StringBuilder s = new StringBuilder();
        for (int i = 0; i < 24; i++) {
            s.append(x.stack(i)).append(' ');
        }
        for (int i = 0; i < 2; i++) {
            s.append(java.util.Arrays.toString(Check.piece(x, i)));
        }
        return s.toString();
    }

    /** Every call that throws, then all that can be asked for is as it was. */
    private static void refusedChangesNothing() {
        TypeOne x = new TypeOne();
        int a = Check.sign(x, "A", n(3), n(4), 13, 9, 9, 14);
        x.encode(7, a);
        Check.subroutine(x, 3, 11);
        x.run(a);
        byte[] before = Check.written(x);
        String state = stateOf(x);
        Check.thrown("4", ILLEGAL, () -> x.sign('B' | '/' << 8, 2));
        Check.thrown("4", UNSUPPORTED, () -> x.sign('A', 1));
        Check.thrown("5", NO_SIGN, () -> x.code(1, (byte) 9));
        Check.thrown("6", INDEX, () -> x.subroutine(64, (byte) 9));
        Check.thrown("7", INDEX, () -> x.encode(256, a));
        Check.thrown("7", NO_SIGN, () -> x.encode(7, 1));
        Check.thrown("7", NO_SIGN, () -> x.encode(8, 1));
        Check.thrown("8", INDEX, () -> x.encoded(256));
        Check.thrown("9", NO_SIGN, () -> x.told(1, 0));
        Check.thrown("9", INDEX, () -> x.told(0, 1));
        Check.thrown("10", NO_SIGN, () -> x.run(1));
        Check.thrown("11", INDEX, () -> x.piece(2, 0));
        Check.thrown("12", NO_SIGN, () -> x.width(1));
        Check.thrown("13", ARRAY, () -> x.stack(24));
        Check.thrown("14", NO_SIGN, () -> x.joined(1, 0));
        Check.thrown("14", INDEX, () -> x.joined(0, 2));
        Check.thrown("15", NO_SIGN, () -> x.cut(1));
        Check.thrown("17", ARRAY, () -> x.octet(before.length));
        Check.due("stack and pieces stay", stateOf(x).equals(state) ? 1 : 0, 1);
        Check.due("17 what was written stays", x.octet(before.length - 1), before[before.length - 1]);
        Check.due("16 the font stays", java.util.Arrays.equals(Check.written(x), before) ? 1 : 0, 1);
    }

    private static void refusedWhenFull() {
        TypeOne x = new TypeOne();
        int a = Check.sign(x, "A", Check.times(255, 9));
        Check.subroutine(x, 0, Check.times(255, 11));
        byte[] before = Check.written(x);
        Check.thrown("5 a 256th byte", UNSUPPORTED, () -> x.code(a, (byte) 14));
        Check.thrown("6 a 256th byte", UNSUPPORTED, () -> x.subroutine(0, (byte) 14));
        Check.due("16 stays", java.util.Arrays.equals(Check.written(x), before) ? 1 : 0, 1);
        Check.due("5 another one has room", x.code(Check.sign(x, "B"), (byte) 14), 1);
        Check.due("6 another one has room", x.subroutine(1, (byte) 14), 1);
        for (int i = 0; i < 2000; i++) {
            x.add((byte) 0);
        }
        Check.thrown("2 a 2001st", UNSUPPORTED, () -> x.add((byte) 'x'));
        Check.thrown("2 again", UNSUPPORTED, () -> x.add((byte) 'x'));
        Check.due("3 2000", x.read(), -2001);
    }

    private static void cutRefusedChangesNothing() {
        TypeOne x = new TypeOne();
        x.encode(65, Check.sign(x, "A", 9, 14));
        x.encode(66, Check.sign(x, "B", 9, 14));
        int j = Check.sign(x, "J", n(0), n(0), n(0), n(65), n(66), 12, 6);
        x.run(j);
        byte[] before = Check.written(x);
        String state = stateOf(x);
        Check.due("15 joined", x.cut(0), -1);
        Check.due("15 joined as the second", x.cut(1), -1);
        Check.due("15 stack and pieces stay", stateOf(x).equals(state) ? 1 : 0, 1);
        Check.due("15 the font stays", java.util.Arrays.equals(Check.written(x), before) ? 1 : 0, 1);
    }

    private static void namesOfSigns() {
        for (int size = 1; size <= 8; size++) {
            TypeOne x = new TypeOne();
            String name = "!~abcdeZ".substring(0, size);
            Check.due("4 a name of " + size, x.sign(Check.letters(name) | (size < 8 ? -1L << 8 * size : 0), size), 0);
            Check.due("9 a name of " + size, x.told(0, -1), size);
            Check.due("9 no program", x.told(0, -2), 0);
            for (int i = 0; i < size; i++) {
                Check.due("9 byte " + i + " of " + size, x.told(0, i), name.charAt(i));
                long wrong = Check.letters(name) & ~(255L << 8 * i);
                for (long b : new long[] {0, 32, 47, 127, 128, 255}) {
                    long spoiled = wrong | b << 8 * i;
                    Check.thrown("4 byte " + b + " at " + i, ILLEGAL, () -> x.sign(spoiled, name.length()));
                }
            }
            Check.thrown("9 no byte behind them", INDEX, () -> x.told(0, name.length()));
            Check.thrown("4 again", UNSUPPORTED, () -> x.sign(Check.letters(name), name.length()));
        }
        TypeOne y = new TypeOne();
        Check.due("4 AB", Check.sign(y, "AB"), 0);
        Check.due("4 its beginning is another name", Check.sign(y, "A"), 1);
        Check.due("4 so is its end", Check.sign(y, "B"), 2);
        Check.due("4 and the other way round", Check.sign(y, "BA"), 3);
    }

    private static void encodingByName() {
        TypeOne x = new TypeOne();
        Check.sign(x, "A");
        for (int code = 0; code < 256; code++) {
            x.encode(code, 0);
            Check.due("8 code " + code, x.encoded(code), 0);
        }
        x.encode(0, -1);
        x.encode(255, -1);
        x.encode(255, -1);
        Check.due("8 none", x.encoded(0), -1);
        Check.due("8 none", x.encoded(255), -1);
        Check.due("8 beside them", x.encoded(1), 0);
        Check.due("8 beside them", x.encoded(254), 0);
        Check.due("15 all gone", x.cut(0), 0);
        Check.due("8 the name has no sign", x.encoded(1), -1);
        Check.thrown("7 the sign is gone", NO_SIGN, () -> x.encode(1, 0));
        Check.sign(x, "B");
        Check.due("8 another name", x.encoded(1), -1);
        Check.sign(x, "A");
        Check.due("8 the name again", x.encoded(1), 1);
    }

    private static void cutMovesUp() {
        for (int gone = 0; gone < 64; gone += 21) {
            TypeOne x = new TypeOne();
            for (int i = 0; i < 64; i++) {
                Check.due("4 sign " + i, x.sign(48 + i, 1), i);
            }
            x.encode(9, 63);
            Check.due("15 cut of " + gone, x.cut(gone), 63);
            for (int i = 0; i < 63; i++) {
                Check.due("9 sign " + i + " without " + gone, x.told(i, 0), 48 + i + (i >= gone ? 1 : 0));
            }
            Check.thrown("9 no 64th", NO_SIGN, () -> x.told(63, 0));
            Check.due("8 moved, too", x.encoded(9), gone == 63 ? -1 : 62);
        }
    }

    /** Whether one is joined is what a run tells, not what the bytes look like. */
    private static void cutByRuns() {
        int[] joins = {n(0), n(0), n(0), n(65), n(66), 12, 6};
        TypeOne x = new TypeOne();
        x.encode(65, Check.sign(x, "A", 14));
        x.encode(66, Check.sign(x, "B", 14));
        Check.sign(x, "never", Check.join(Check.bytes(14), joins));
        int j = Check.sign(x, "J", Check.join(Check.bytes(2), joins));
        Check.due("14 a fault before it", x.joined(j, 0), -1);
        int k = Check.sign(x, "K", n(0), 10);
        Check.due("15 no run joins it", x.cut(j), 4);
        Check.subroutine(x, 0, joins);
        Check.due("14 joined by a subroutine", x.joined(k - 1, 0), 0);
        Check.due("15 joined by a subroutine", x.cut(0), -1);
        x.encode(65, -1);
        Check.due("15 not both are found", x.cut(1), 3);
        TypeOne y = new TypeOne();
        int s = Check.sign(y, "S", joins);
        y.encode(65, s);
        y.encode(66, s);
        Check.due("14 joins itself", y.joined(s, 0), 0);
        Check.due("15 its own run does not count", y.cut(s), 0);
    }

    private static void questionsChangeNothing() {
        TypeOne x = new TypeOne();
        x.encode(65, Check.sign(x, "A", n(1), n(2), 13, 9, n(5), 6, 9, 14));
        x.encode(66, Check.sign(x, "B", n(3), n(4), 13, 9, 9, 14));
        int j = Check.sign(x, "J", n(0), n(0), n(0), n(65), n(66), 12, 6);
        x.run(1);
        String state = stateOf(x);
        Check.due("12", x.width(0), 2);
        Check.due("14", x.joined(j, 1), 1);
        Check.due("15", x.cut(1), -1);
        x.seal();
        x.take();
        x.read();
        Check.due("stack and pieces stay", stateOf(x).equals(state) ? 1 : 0, 1);
        x.cut(j);
        x.cut(1);
        Check.due("stack and pieces stay behind a cut", stateOf(x).equals(state) ? 1 : 0, 1);
    }

    private static void latestRun() {
        TypeOne x = new TypeOne();
        Check.sign(x, "A", n(1), n(2), n(3), n(4), 30, 9, 14);
        Check.sign(x, "B", n(7), 22, 14);
        Check.sign(x, "C");
        Check.due("10 A", x.run(0), 2);
        Check.due("10 B", x.run(1), 1);
        Check.row("11 no controls", Check.piece(x, 0), 0, 7, 0, 0, 0, 0, 0);
        Check.thrown("11 no second", INDEX, () -> x.piece(1, 0));
        Check.due("13 zeros at first", x.stack(1), 0);
        Check.due("10 C", x.run(2), -6);
        Check.thrown("11 none", INDEX, () -> x.piece(0, 0));
        Check.due("13 none", x.stack(0), 0);
    }

    private static void lastWritten() {
        TypeOne x = new TypeOne();
        Check.thrown("17 nothing was written", ARRAY, () -> x.octet(0));
        Check.due("18 nothing was written", x.take(), 0);
        x.add((byte) 'x');
        Check.due("18 in place of what was collected", x.take(), 0);
        Check.due("3 nothing is there", x.read(), -1);
        int size = x.seal();
        Check.sign(x, "A", 14);
        Check.due("18 as it was written", x.take(), size);
        Check.due("3 without the sign", x.read(), 0);
        Check.thrown("9 it is gone", NO_SIGN, () -> x.told(0, -1));
        Check.due("18 it can be taken again", x.take(), size);
        Check.due("17 its first", x.octet(0), '%');
        Check.due("17 its third", x.octet(2), 10);
    }
}
