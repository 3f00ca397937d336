import java.util.NoSuchElementException;

/** Promises 1, 2, 4 to 9 and 15: a font made sign by sign. */
public final class FontTest {
    private static final Class<?> ILLEGAL = IllegalArgumentException.class;
    private static final Class<?> UNSUPPORTED = UnsupportedOperationException.class;
    private static final Class<?> NO_SIGN = NoSuchElementException.class;
    private static final Class<?> INDEX = IndexOutOfBoundsException.class;

    public static void main(String[] args) {
        newObject();
        add();
        sign();
        code();
        subroutine();
        encoding();
        told();
        cut();
        cutOfJoined();
        Check.end();
    }

    private static void newObject() {
        TypeOne x = new TypeOne();
        Check.thrown("told of none", NO_SIGN, () -> x.told(0, -1));
        for (int i = 0; i < 256; i++) {
            Check.due("1 encoded " + i, x.encoded(i), -1);
        }
        for (int i = 0; i < 24; i++) {
            Check.due("1 stack " + i, x.stack(i), 0);
        }
        Check.thrown("1 piece", INDEX, () -> x.piece(0, 0));
        Check.thrown("1 octet", ArrayIndexOutOfBoundsException.class, () -> x.octet(0));
        Check.due("1 read", x.read(), -1);
        Check.due("1 seal", Check.latin(Check.written(x)).indexOf("%!\n/Encoding def eexec "), 0);
        Check.due("1 seal, size", x.seal(), 23 + 4 + "/lenIV 4 /Subrs /CharStrings end ".length());
        TypeOne y = new TypeOne();
        Check.due("1 no subroutine", Check.runOf(y, Check.n(0), 10), -4);
    }

    private static void add() {
        TypeOne x = new TypeOne();
        for (int i = 0; i < 2000; i++) {
            x.add((byte) 65);
        }
        Check.thrown("2 the 2001st", UNSUPPORTED, () -> x.add((byte) 65));
        Check.due("2 read of 2000", x.read(), -2001);
        x.add((byte) 65);
        Check.due("2 read of 1", x.read(), -2);
        Check.due("2 read of 0", x.read(), -1);
    }

    private static void sign() {
        TypeOne x = new TypeOne();
        Check.thrown("4 n 0", ILLEGAL, () -> x.sign(65, 0));
        Check.thrown("4 n 9", ILLEGAL, () -> x.sign(0x4141414141414141L, 9));
        Check.thrown("4 n -1", ILLEGAL, () -> x.sign(65, -1));
        Check.thrown("4 byte 32", ILLEGAL, () -> x.sign(0x2041, 2));
        Check.thrown("4 byte 47", ILLEGAL, () -> x.sign(0x2f41, 2));
        Check.thrown("4 byte 127", ILLEGAL, () -> x.sign(0x7f, 1));
        Check.thrown("4 byte 128", ILLEGAL, () -> x.sign(0x80, 1));
        Check.thrown("4 byte 0", ILLEGAL, () -> x.sign(65, 2));
        Check.due("4 lowest byte alone", x.sign(0x2f2f21L, 1), 0);
        Check.due("4 its name", x.told(0, 0), 33);
        Check.due("4 eight bytes", x.sign(0x7e7e7e7e7e7e7e41L, 8), 1);
        Check.due("4 first", x.told(1, 0), 65);
        Check.due("4 last", x.told(1, 7), 126);
        Check.thrown("4 again", UNSUPPORTED, () -> x.sign(33, 1));
        for (int i = 2; i < 64; i++) {
            Check.due("4 sign", x.sign(65 + i % 26 | (65 + i / 26) << 8, 2), i);
        }
        Check.thrown("4 65th", UNSUPPORTED, () -> x.sign(0x7e, 1));
        Check.thrown("4 illegal before unsupported", ILLEGAL, () -> x.sign(0x20, 1));
        Check.due("4 program is empty", x.told(63, -2), 0);
        Check.thrown("9 sign 64", NO_SIGN, () -> x.told(64, -1));
        Check.due("15 the last of 64", x.cut(63), 63);
    }

    private static void code() {
        TypeOne x = new TypeOne();
        Check.thrown("5 no sign", NO_SIGN, () -> x.code(0, (byte) 1));
        Check.thrown("5 -1", NO_SIGN, () -> x.code(-1, (byte) 1));
        int s = Check.sign(x, "A");
        for (int i = 1; i <= 255; i++) {
            Check.due("5 size", x.code(s, (byte) i), i);
        }
        Check.thrown("5 256th", UNSUPPORTED, () -> x.code(s, (byte) 1));
        Check.due("5 told size", x.told(s, -2), 255);
        for (int i = 0; i < 255; i++) {
            Check.due("5 told byte", x.told(s, 100 + i), i + 1);
        }
    }

    private static void subroutine() {
        TypeOne x = new TypeOne();
        Check.thrown("6 -1", INDEX, () -> x.subroutine(-1, (byte) 1));
        Check.thrown("6 64", INDEX, () -> x.subroutine(64, (byte) 1));
        for (int i = 1; i <= 255; i++) {
            Check.due("6 size", x.subroutine(63, (byte) 11), i);
        }
        Check.thrown("6 256th", UNSUPPORTED, () -> x.subroutine(63, (byte) 1));
        Check.due("6 other", x.subroutine(0, (byte) 14), 1);
        Check.due("6 run", Check.runOf(x, Check.n(63), 10, Check.n(0), 10), 0);
    }

    private static void encoding() {
        TypeOne x = new TypeOne();
        int a = Check.sign(x, "A");
        int b = Check.sign(x, "AB");
        Check.thrown("7 256", INDEX, () -> x.encode(256, 0));
        Check.thrown("7 -1", INDEX, () -> x.encode(-1, -1));
        Check.thrown("7 both", INDEX, () -> x.encode(256, 9));
        Check.thrown("7 no sign", NO_SIGN, () -> x.encode(0, 2));
        Check.thrown("7 sign -2", NO_SIGN, () -> x.encode(0, -2));
        Check.thrown("8 -1", INDEX, () -> x.encoded(-1));
        Check.thrown("8 256", INDEX, () -> x.encoded(256));
        x.encode(0, a);
        x.encode(255, b);
        x.encode(7, b);
        x.encode(7, a);
        Check.due("8 at 0", x.encoded(0), a);
        Check.due("8 at 255", x.encoded(255), b);
        Check.due("8 the later", x.encoded(7), a);
        x.encode(7, -1);
        Check.due("8 none", x.encoded(7), -1);
        Check.due("15 cut", x.cut(a), 1);
        Check.due("8 name without a sign", x.encoded(0), -1);
        Check.due("8 moved up", x.encoded(255), 0);
        Check.due("4 the name anew", Check.sign(x, "A"), 1);
        Check.due("8 the name stayed", x.encoded(0), 1);
    }

    private static void told() {
        TypeOne x = new TypeOne();
        int s = Check.sign(x, "xyz", 0, 255);
        Check.due("9 name's size", x.told(s, -1), 3);
        Check.due("9 program's size", x.told(s, -2), 2);
        Check.due("9 name 0", x.told(s, 0), 'x');
        Check.due("9 name 2", x.told(s, 2), 'z');
        Check.due("9 program 0", x.told(s, 100), 0);
        Check.due("9 program 1", x.told(s, 101), 255);
        for (int what : new int[] {-3, 3, 99, 102, Integer.MIN_VALUE, Integer.MAX_VALUE}) {
            Check.thrown("9 what " + what, INDEX, () -> x.told(s, what));
        }
        Check.thrown("9 no sign first", NO_SIGN, () -> x.told(1, -3));
        Check.thrown("9 no sign -1", NO_SIGN, () -> x.told(-1, -1));
    }

    private static void cut() {
        TypeOne x = new TypeOne();
        Check.sign(x, "A", 1);
        Check.sign(x, "B", 2, 2);
        Check.sign(x, "C", 3, 3, 3);
        Check.thrown("15 3", NO_SIGN, () -> x.cut(3));
        Check.thrown("15 -1", NO_SIGN, () -> x.cut(-1));
        Check.due("15 cut", x.cut(1), 2);
        Check.due("15 moved up, name", x.told(1, 0), 'C');
        Check.due("15 moved up, program", x.told(1, -2), 3);
        Check.due("15 stays", x.told(0, 0), 'A');
        Check.thrown("15 gone", NO_SIGN, () -> x.told(2, -1));
        Check.due("15 cut last", x.cut(1), 1);
        Check.due("15 cut all", x.cut(0), 0);
    }

    private static void cutOfJoined() {
        TypeOne x = new TypeOne();
        int a = Check.sign(x, "A", 14);
        int b = Check.sign(x, "B", 14);
        int z = Check.n(0);
        int j = Check.sign(x, "J", z, z, z, Check.n(1), Check.n(2), 12, 6);
        x.encode(1, a);
        x.encode(2, b);
        Check.due("15 first is joined", x.cut(a), -1);
        Check.due("15 second is joined", x.cut(b), -1);
        Check.due("15 all there", x.told(2, 0), 'J');
        x.encode(2, j);
        Check.due("15 a fault behind it", x.cut(a), -1);
        Check.due("15 by itself alone", x.cut(j), 2);
        Check.due("15 joined no more", x.cut(a), 1);
        TypeOne y = new TypeOne();
        Check.sign(y, "J", z, z, z, Check.n(1), Check.n(1), 12, 6);
        y.encode(1, Check.sign(y, "A", 14));
        Check.due("15 joined by sign 0", y.cut(1), -1);
    }
}
