import java.util.NoSuchElementException;

/** Promises 10 to 14: programs run to pieces, a width and a stack. */
public final class RunTest {
    private static final Class<?> NO_SIGN = NoSuchElementException.class;
    private static final Class<?> INDEX = IndexOutOfBoundsException.class;

    public static void main(String[] args) {
        numbers();
        oneOperatorEach();
        wrongNumbers();
        noOperators();
        bytesEnd();
        stackAndShelf();
        subroutines();
        division();
        flex();
        flexFaults();
        counts();
        joining();
        joiningFaults();
        runsBeginAnew();
        questionsStayAside();
        wrongInputs();
        Check.end();
    }

    private static int n(int value) {
        return Check.n(value);
    }

    private static int firstOfStack(int... number) {
        TypeOne x = new TypeOne();
        Check.runOf(x, number);
        return x.stack(0);
    }

    private static void numbers() {
        Check.due("10 byte 32", firstOfStack(32), -107);
        Check.due("10 byte 246", firstOfStack(246), 107);
        Check.due("10 byte 247 0", firstOfStack(247, 0), 108);
        Check.due("10 byte 250 255", firstOfStack(250, 255), 1131);
        Check.due("10 byte 251 0", firstOfStack(251, 0), -108);
        Check.due("10 byte 254 255", firstOfStack(254, 255), -1131);
        Check.due("10 byte 255, highest first", firstOfStack(255, 1, 2, 3, 4), 0x01020304);
        Check.due("10 byte 255, below 0", firstOfStack(255, 255, 255, 255, 254), -2);
        Check.due("10 bytes end behind a number", Check.runOf(n(0)), -6);
    }

    private static void oneOperatorEach() {
        TypeOne x = new TypeOne();
        Check.due("10 pieces", Check.runOf(x,
            n(10), n(50), 13, n(1), n(2), 21, n(3), 22, n(4), 4, n(5), n(6), 5, n(7), 6, n(8), 7,
            n(1), n(2), n(3), n(4), n(5), n(6), 8, n(1), n(2), n(3), n(4), 30, n(1), n(2), n(3), n(4), 31,
            9, n(7), n(8), 12, 33, 9, n(0), n(1), 1, n(0), n(1), 3, 12, 0, 14), 11);
        Check.row("11 move", Check.piece(x, 0), 0, 11, 2, 0, 0, 0, 0);
        Check.row("11 move dx", Check.piece(x, 1), 0, 14, 2, 0, 0, 0, 0);
        Check.row("11 move dy", Check.piece(x, 2), 0, 14, 6, 0, 0, 0, 0);
        Check.row("11 line", Check.piece(x, 3), 1, 19, 12, 0, 0, 0, 0);
        Check.row("11 line dx", Check.piece(x, 4), 1, 26, 12, 0, 0, 0, 0);
        Check.row("11 line dy", Check.piece(x, 5), 1, 26, 20, 0, 0, 0, 0);
        Check.row("11 curve", Check.piece(x, 6), 2, 35, 32, 27, 22, 30, 26);
        Check.row("11 curve 30", Check.piece(x, 7), 2, 41, 36, 35, 33, 37, 36);
        Check.row("11 curve 31", Check.piece(x, 8), 2, 44, 43, 42, 36, 44, 39);
        Check.row("11 closed", Check.piece(x, 9), 3, 44, 43, 0, 0, 0, 0);
        Check.row("11 closed at a set point", Check.piece(x, 10), 3, 7, 8, 0, 0, 0, 0);
        Check.due("12 width", x.width(0), 50);
        Check.thrown("11 no such piece", INDEX, () -> x.piece(11, 0));
        Check.thrown("11 piece -1", INDEX, () -> x.piece(-1, 0));
        Check.thrown("11 what 7", INDEX, () -> x.piece(0, 7));
        Check.thrown("11 what -1", INDEX, () -> x.piece(0, -1));
        TypeOne y = new TypeOne();
        Check.due("10 12 7", Check.runOf(y, n(3), n(4), n(5), n(6), 12, 7, 9, 14), 1);
        Check.row("11 12 7", Check.piece(y, 0), 3, 3, 4, 0, 0, 0, 0);
        Check.due("12 12 7", y.width(0), 5);
        Check.due("10 sums wrap", Check.runOf(new TypeOne(),
            255, 127, 255, 255, 255, n(1), 12, 33, n(1), 6, 14), 1);
        TypeOne z = new TypeOne();
        Check.runOf(z, 255, 127, 255, 255, 255, n(1), 12, 33, n(1), 6, 14);
        Check.due("11 sums wrap", z.piece(0, 1), Integer.MIN_VALUE);
    }

    /** One number too few and one too many, for every operator that takes all. */
    private static void wrongNumbers() {
        int[][] operators = {
            {13, 2}, {1, 2}, {3, 2}, {21, 2}, {22, 1}, {4, 1}, {5, 2}, {6, 1}, {7, 1}, {8, 6}, {30, 4}, {31, 4},
            {9, 0}, {14, 0}, {256, 0}, {257, 6}, {258, 6}, {262, 5}, {263, 4}, {289, 2}};
        for (int[] row : operators) {
            int[] op = row[0] < 256 ? Check.bytes(row[0]) : Check.bytes(12, row[0] - 256);
            String what = "10 operator " + row[0];
            Check.due(what + ", one more", Check.runOf(Check.join(Check.times(row[1] + 1, n(1)), op)), -2);
            if (row[1] > 0) {
                Check.due(what + ", one less", Check.runOf(Check.join(Check.times(row[1] - 1, n(1)), op)), -2);
            }
        }
        Check.due("10 call without a number", Check.runOf(10), -2);
        Check.due("10 division of one", Check.runOf(n(1), 12, 12), -2);
        Check.due("10 12 16 of one", Check.runOf(n(0), 12, 16), -2);
        Check.due("10 12 16, n below 0", Check.runOf(n(5), n(-1), n(3), 12, 16), -2);
        Check.due("10 12 16, n too large", Check.runOf(n(5), n(2), n(3), 12, 16), -2);
        Check.due("10 12 16, k 0 and n 2", Check.runOf(n(5), n(5), n(2), n(0), 12, 16), -2);
        Check.due("10 12 16, k 1 and n 1", Check.runOf(n(5), n(1), n(1), 12, 16), -2);
        Check.due("10 12 16, k 2 and n 1", Check.runOf(n(0), n(1), 12, 16, n(5), n(1), n(2), 12, 16), -2);
        Check.due("10 11 needs no empty stack", Check.runOf(n(1), 11), 0);
    }

    private static void noOperators() {
        for (int b : new int[] {0, 2, 15, 16, 17, 18, 19, 20, 23, 24, 25, 26, 27, 28, 29}) {
            Check.due("10 none: " + b, Check.runOf(n(1), n(1), b), -1);
        }
        java.util.Set<Integer> known = java.util.Set.of(0, 1, 2, 6, 7, 12, 16, 17, 33);
        for (int b = 0; b < 256; b++) {
            if (!known.contains(b)) {
                Check.due("10 none: 12 " + b, Check.runOf(12, b), -1);
            }
        }
    }

    private static void bytesEnd() {
        Check.due("10 empty", Check.runOf(), -6);
        Check.due("10 12 alone", Check.runOf(12), -6);
        Check.due("10 247 alone", Check.runOf(247), -6);
        Check.due("10 254 alone", Check.runOf(254), -6);
        Check.due("10 255 and three", Check.runOf(255, 1, 2, 3), -6);
        TypeOne x = new TypeOne();
        Check.subroutine(x, 0, n(1), 6);
        Check.due("10 a subroutine's bytes end", Check.runOf(x, n(0), 10, 14), -6);
        Check.row("11 pieces up to a fault", Check.piece(x, 0), 1, 1, 0, 0, 0, 0, 0);
        Check.thrown("11 and no more", INDEX, () -> x.piece(1, 0));
    }

    private static void stackAndShelf() {
        TypeOne x = new TypeOne();
        Check.due("10 24 numbers", Check.runOf(x, Check.join(Check.times(24, n(9)), Check.bytes(11))), 0);
        Check.due("13 place 23", x.stack(23), 9);
        Check.due("10 a 25th", Check.runOf(Check.times(25, n(9))), -3);
        Check.due("10 a 25th that is not all there",
            Check.runOf(Check.join(Check.times(24, n(9)), Check.bytes(255, 1))), -6);
        Check.due("10 nothing on the shelf", Check.runOf(12, 17), -11);
        Check.due("10 nothing on the shelf, stack full",
            Check.runOf(Check.join(Check.times(24, n(9)), Check.bytes(12, 17))), -11);
        Check.due("10 a 25th from the shelf", Check.runOf(Check.join(
            Check.bytes(n(5), n(1), n(3), 12, 16), Check.times(24, n(9)), Check.bytes(12, 17))), -3);
        TypeOne y = new TypeOne();
        Check.due("10 shelf", Check.runOf(y, n(1), n(2), n(3), n(3), n(7), 12, 16, 12, 17, 12, 17, 11), 0);
        Check.due("13 the first one is on top", y.stack(0), 1);
        Check.due("13 then the second", y.stack(1), 2);
        Check.due("13 what was there stays", y.stack(2), 3);
        Check.due("13 n stays", y.stack(3), 3);
        Check.due("13 k stays", y.stack(4), 7);
        Check.due("13 zero", y.stack(5), 0);
        Check.due("10 others with k below 0", Check.runOf(n(4), n(1), n(-1), 12, 16, 12, 17, 11), 0);
        Check.due("10 others with n 0", Check.runOf(n(0), n(3), 12, 16, 14), 0);
        int[] twelve = Check.join(Check.times(12, n(9)), Check.bytes(n(12), n(3), 12, 16));
        Check.due("10 24 on the shelf", Check.runOf(Check.join(twelve, twelve, Check.bytes(14))), 0);
        Check.due("10 a 25th on the shelf",
            Check.runOf(Check.join(twelve, twelve, Check.bytes(n(1), n(1), n(3), 12, 16, 14))), -3);
        TypeOne z = new TypeOne();
        Check.runOf(z, n(5), n(6), 11);
        int s = Check.sign(z, "next", 14);
        Check.due("10 next", z.run(s), 0);
        Check.due("13 zeros at first", z.stack(0), 0);
    }

    private static void subroutines() {
        TypeOne x = new TypeOne();
        Check.subroutine(x, 5, n(3), 6, 11);
        Check.due("10 called twice", Check.runOf(x, n(5), 10, n(5), 10, 14), 2);
        Check.row("11 second call", Check.piece(x, 1), 1, 6, 0, 0, 0, 0, 0);
        Check.due("10 subroutine -1", Check.runOf(n(-1), 10), -4);
        Check.due("10 subroutine 64", Check.runOf(n(64), 10), -4);
        Check.due("10 one that is none", Check.runOf(n(63), 10), -4);
        TypeOne y = new TypeOne();
        Check.subroutine(y, 0, 14);
        Check.due("10 the end in a subroutine", Check.runOf(y, n(0), 10, 2), 0);
        Check.due("10 ten within each other", nested(10), 0);
        Check.due("10 eleven within each other", nested(11), -5);
        TypeOne z = new TypeOne();
        Check.subroutine(z, 0, n(0), 10);
        Check.due("10 without an end", Check.runOf(z, n(0), 10), -5);
        TypeOne w = new TypeOne();
        for (int i = 0; i < 9; i++) {
            Check.subroutine(w, i, n(i + 1), 10, 11);
        }
        Check.subroutine(w, 9, n(40), 10, 11);
        Check.due("10 none is looked at before the depth", Check.runOf(w, n(0), 10, 14), -4);
    }

    private static int nested(int depth) {
        TypeOne x = new TypeOne();
        for (int i = 0; i < depth - 1; i++) {
            Check.subroutine(x, i, n(i + 1), 10, 11);
        }
        Check.subroutine(x, depth - 1, 11);
        return Check.runOf(x, n(0), 10, 14);
    }

    private static void division() {
        TypeOne x = new TypeOne();
        Check.runOf(x, n(1), n(-7), n(2), 12, 12, 11);
        Check.due("13 below stays", x.stack(0), 1);
        Check.due("13 cut off", x.stack(1), -3);
        Check.due("13 the divisor stays", x.stack(2), 2);
        Check.due("10 one number is left", Check.runOf(n(6), n(2), 12, 12, 6, 14), 1);
        Check.due("10 by 0", Check.runOf(n(1), n(0), 12, 12), -8);
        TypeOne y = new TypeOne();
        Check.due("10 the lowest by -1", Check.runOf(y, 255, 128, 0, 0, 0, n(-1), 12, 12, 11), 0);
        Check.due("13 the lowest by -1", y.stack(0), Integer.MIN_VALUE);
    }

    private static final int[] OPEN = {n(0), n(1), 12, 16};
    private static final int[] POINT = {n(0), n(2), 12, 16};

    private static int[] points(int count) {
        int[] all = OPEN;
        for (int i = 0; i < count; i++) {
            all = Check.join(all, Check.bytes(n(i + 1), n(10 * i % 90), 21), POINT);
        }
        return all;
    }

    private static int[] close(int x, int y) {
        return Check.bytes(n(50), n(x), n(y), n(3), n(0), 12, 16);
    }

    private static void flex() {
        TypeOne x = new TypeOne();
        int[] end = {12, 17, 12, 17, 12, 33, 9, 14};
        Check.due("10 flex", Check.runOf(x, Check.join(points(7), close(77, 88), end)), 3);
        Check.row("11 flex, first curve", Check.piece(x, 0), 2, 10, 60, 3, 10, 6, 30);
        Check.row("11 flex, second curve", Check.piece(x, 1), 2, 28, 210, 15, 100, 21, 150);
        Check.row("11 flex, x is on top", Check.piece(x, 2), 3, 77, 88, 0, 0, 0, 0);
        Check.due("10 a move behind the flex",
            Check.runOf(Check.join(points(7), close(1, 1), Check.bytes(n(1), 22, 14))), 3);
        Check.due("10 moves and lines in a flex",
            Check.runOf(Check.join(OPEN, Check.bytes(n(1), 22, n(1), 4, n(1), 6, 14))), 1);
        Check.due("10 opened anew",
            Check.runOf(Check.join(points(3), points(7), close(1, 1), Check.bytes(14))), 2);
        TypeOne y = new TypeOne();
        Check.runOf(y, Check.join(points(7), Check.bytes(n(5), 22), close(1, 1), Check.bytes(9, 14)));
        Check.row("11 the point stays where it is", Check.piece(y, 2), 3, 33, 210, 0, 0, 0, 0);
    }

    private static void flexFaults() {
        Check.due("10 none open, closing", Check.runOf(close(1, 1)), -7);
        Check.due("10 none open, a point", Check.runOf(POINT), -7);
        Check.due("10 six points", Check.runOf(Check.join(points(6), close(1, 1))), -7);
        Check.due("10 an eighth point", Check.runOf(points(8)), -7);
        Check.due("10 open no more", Check.runOf(Check.join(points(7), close(1, 1), close(1, 1))), -7);
        int[] most = Check.join(Check.times(11, n(9)), Check.bytes(n(11), n(3), 12, 16));
        int[] shelf23 = Check.join(most, most, Check.bytes(n(9), n(1), n(3), 12, 16));
        Check.due("10 22 on the shelf and a flex",
            Check.runOf(Check.join(most, most, points(7), close(1, 1), Check.bytes(14))), 2);
        Check.due("10 23 on the shelf and a flex", Check.runOf(Check.join(shelf23, points(7), close(1, 1))), -3);
        TypeOne x = new TypeOne();
        Check.subroutine(x, 0, Check.join(Check.times(199, 9), Check.bytes(11)));
        Check.due("10 a 201st piece by a flex",
            Check.runOf(x, Check.join(shelf23, points(7), Check.bytes(n(0), 10), close(1, 1))), -9);
        Check.due("11 the 200th is there", x.piece(199, 0), 2);
        Check.thrown("11 the 201st is not", INDEX, () -> x.piece(200, 0));
    }

    private static void counts() {
        TypeOne x = new TypeOne();
        Check.subroutine(x, 0, Check.join(Check.times(50, 9), Check.bytes(11)));
        int[] all = Check.times(4, n(0), 10);
        Check.due("10 200 pieces", Check.runOf(x, Check.join(all, Check.bytes(14))), 200);
        int s = Check.sign(x, "more", Check.join(all, Check.bytes(9, 14)));
        Check.due("10 a 201st piece", x.run(s), -9);
        TypeOne y = new TypeOne();
        Check.subroutine(y, 0, Check.join(Check.times(99, 12, 0), Check.bytes(11)));
        int[] most = Check.join(Check.times(19, n(0), 10), Check.times(61, 12, 0));
        Check.due("10 2000 bytes", Check.runOf(y, Check.join(most, Check.bytes(11))), 0);
        int t = Check.sign(y, "more", Check.join(most, Check.bytes(12, 0, 14)));
        Check.due("10 a 2001st byte", y.run(t), -10);
        int u = Check.sign(y, "ends", Check.join(most, Check.bytes(12, 0)));
        Check.due("10 no 2001st byte", y.run(u), -6);
        int v = Check.sign(y, "none", Check.join(most, Check.bytes(12, 0, 2)));
        Check.due("10 a 2001st byte that is no operator", y.run(v), -10);
    }

    private static TypeOne withParts(int[] first, int[] second) {
        TypeOne x = new TypeOne();
        x.encode(65, Check.sign(x, "A", first));
        x.encode(66, Check.sign(x, "B", second));
        return x;
    }

    private static void joining() {
        TypeOne x = withParts(Check.bytes(n(5), n(60), 13, n(1), n(2), 21, 9, 14),
            Check.bytes(n(7), n(8), n(70), n(0), 12, 7, n(1), n(1), 5, n(1), n(2), n(3), n(4), n(5), n(6), 8, 11));
        int j = Check.sign(x, "J", n(20), n(80), 13, n(4), 6, n(0), n(1), 12, 16,
            n(3), n(30), n(40), n(65), n(66), 12, 6, 2);
        Check.due("10 joined", x.run(j), 5);
        Check.row("11 its own", Check.piece(x, 0), 1, 24, 0, 0, 0, 0, 0);
        Check.row("11 the first: no flex, from the start", Check.piece(x, 1), 0, 6, 2, 0, 0, 0, 0);
        Check.row("11 the first, closed", Check.piece(x, 2), 3, 6, 2, 0, 0, 0, 0);
        Check.row("11 the second is moved", Check.piece(x, 3), 1, 55, 49, 0, 0, 0, 0);
        Check.row("11 its curve, too", Check.piece(x, 4), 2, 64, 61, 56, 51, 59, 55);
        Check.due("12 width stays", x.width(j), 80);
        int[] stack = {3, 30, 40, 65, 66, 0};
        for (int i = 0; i < stack.length; i++) {
            Check.due("13 of the sign itself", x.stack(i), stack[i]);
        }
        Check.due("14 first", x.joined(j, 0), 0);
        Check.due("14 second", x.joined(j, 1), 1);
        Check.due("14 none", x.joined(0, 0), -1);
        Check.due("14 none, second", x.joined(0, 1), -1);
        Check.due("12 a part's own width", x.width(1), 70);
        x.encode(66, 0);
        Check.due("10 the same one twice", x.run(j), 5);
        Check.due("14 the same one twice", x.joined(j, 1), 0);
        joiningWithinSubroutines();
    }

    private static void joiningWithinSubroutines() {
        TypeOne x = withParts(Check.bytes(n(10), 10, 14), Check.bytes(n(10), 10, 14));
        for (int i = 0; i < 9; i++) {
            Check.subroutine(x, i, n(i + 1), 10, 11);
        }
        Check.subroutine(x, 9, n(0), n(0), n(0), n(65), n(66), 12, 6);
        for (int i = 10; i < 19; i++) {
            Check.subroutine(x, i, n(i + 1), 10, 11);
        }
        Check.subroutine(x, 19, 9, 11);
        Check.due("10 counted anew in parts", x.run(Check.sign(x, "J", n(0), 10)), 2);
    }

    private static void joiningFaults() {
        TypeOne x = withParts(Check.bytes(9, 14), Check.bytes(n(1), 6));
        int j = Check.sign(x, "J", n(2), n(9), 13, n(0), n(0), n(0), n(65), n(66), 12, 6);
        Check.due("10 a fault of a part", x.run(j), -6);
        Check.due("14 a fault of a part", x.joined(j, 1), 1);
        Check.due("12 a fault of a part", x.width(j), 9);
        Check.due("11 pieces before it", x.piece(1, 1), 3);
        int k = Check.sign(x, "K", n(0), n(0), n(0), n(65), n(67), 12, 6);
        Check.due("10 a part that is none", x.run(k), -12);
        Check.thrown("11 the first is not run", INDEX, () -> x.piece(0, 0));
        Check.due("14 a part that is none", x.joined(k, 0), -1);
        int m = Check.sign(x, "M", n(0), n(0), n(0), n(-1), n(65), 12, 6);
        Check.due("10 a code that is none", x.run(m), -12);
        int h = Check.sign(x, "H", n(0), n(0), n(0), n(65), 247, 148, 12, 6);
        Check.due("10 code 256", x.run(h), -12);
        x.encode(67, j);
        Check.due("10 a part that joins", x.run(k), -12);
        Check.due("11 when it comes to that", x.piece(0, 0), 3);
        Check.due("14 a part that joins", x.joined(k, 1), j);
        x.encode(68, k);
        int self = Check.sign(x, "S", n(0), n(0), n(0), n(69), n(65), 12, 6);
        x.encode(69, self);
        Check.due("10 itself", x.run(self), -12);
        Check.due("14 itself", x.joined(self, 0), self);
        countsGoOn();
    }

    private static void countsGoOn() {
        int[] hundred = Check.join(Check.times(100, 9), Check.bytes(14));
        TypeOne x = withParts(hundred, hundred);
        Check.due("10 200 pieces of parts", x.run(Check.sign(x, "J", n(0), n(0), n(0), n(65), n(66), 12, 6)), 200);
        Check.due("10 a 201st piece of parts",
            x.run(Check.sign(x, "K", 9, n(0), n(0), n(0), n(65), n(66), 12, 6)), -9);
        int[] most = Check.join(Check.times(10, n(0), 10), Check.bytes(14));
        TypeOne y = withParts(most, most);
        Check.subroutine(y, 0, Check.join(Check.times(96, 12, 0), Check.bytes(11)));
        int[] joins = {n(0), n(0), n(0), n(65), n(66), 12, 6};
        int[] own = Check.times(12, 12, 0);
        Check.due("10 2000 bytes of parts", y.run(Check.sign(y, "J", Check.join(own, joins))), 0);
        Check.due("10 a 2001st byte of parts",
            y.run(Check.sign(y, "K", Check.join(own, Check.bytes(12, 0), joins))), -10);
    }

    /** Nothing of a run is left for the next one but its pieces and its stack. */
    private static void runsBeginAnew() {
        TypeOne x = withParts(Check.bytes(9, 14), Check.bytes(9, 14));
        int dirty = Check.sign(x, "dirty", Check.join(Check.bytes(n(7), n(9), 13, n(1), 4), OPEN,
            Check.bytes(n(5), n(1), n(3), 12, 16, n(0), 10)));
        Check.subroutine(x, 0, n(0), n(30), n(40), n(65), n(66), 12, 6);
        int shelf = Check.sign(x, "shelf", 12, 17);
        int flex = Check.sign(x, "flex", POINT);
        int back = Check.sign(x, "back", 11, 2);
        int point = Check.sign(x, "point", n(0), n(0), 21, 14);
        int plain = Check.sign(x, "plain", n(0), n(0), n(0), n(65), n(66), 12, 6);
        int[] signs = {shelf, flex, back, point, plain};
        int[] due = {-11, -7, 0, 1, 2};
        for (int i = 0; i < signs.length; i++) {
            Check.due("10 the dirty one", x.run(dirty), 3);
            Check.due("11 its shift", x.piece(2, 1), 37);
            Check.due("10 anew " + i, x.run(signs[i]), due[i]);
        }
        Check.row("11 no side, no shift", Check.piece(x, 1), 3, 0, 0, 0, 0, 0, 0);
        x.run(dirty);
        x.run(point);
        Check.row("11 from (0, 0)", Check.piece(x, 0), 0, 0, 0, 0, 0, 0, 0);
        Check.due("12 the dirty one", x.width(dirty), 9);
        Check.due("12 anew", x.width(point), 0);
        Check.due("14 the dirty one", x.joined(dirty, 0), 0);
        Check.due("14 anew", x.joined(point, 0), -1);
        partsBeginAnew();
    }

    /** The second of the joined must not find the shelf, the flex, or the point of the first. */
    private static void partsBeginAnew() {
        int[] first = Check.join(Check.bytes(n(7), n(9), 13, n(5), n(1), n(3), 12, 16), OPEN, Check.bytes(14));
        int[] joins = {n(0), n(0), n(0), n(65), n(66), 12, 6};
        TypeOne x = withParts(first, Check.bytes(12, 17));
        Check.due("10 an empty shelf", x.run(Check.sign(x, "J", joins)), -11);
        TypeOne y = withParts(first, POINT);
        Check.due("10 no flex", y.run(Check.sign(y, "J", joins)), -7);
        TypeOne z = withParts(first, Check.bytes(9, 14));
        Check.due("10 the point", z.run(Check.sign(z, "J", joins)), 1);
        Check.row("11 the point", Check.piece(z, 0), 3, 0, 0, 0, 0, 0, 0);
        TypeOne w = withParts(Check.bytes(n(1), n(0), 10), Check.bytes(9, 14));
        Check.subroutine(w, 0, 11);
        Check.due("10 a part's bytes end", w.run(Check.sign(w, "J", joins)), -6);
        TypeOne v = withParts(Check.bytes(n(1), n(2), 11), Check.bytes(9, 14));
        Check.due("10 an empty stack", v.run(Check.sign(v, "J", joins)), 1);
    }

    private static void questionsStayAside() {
        TypeOne x = withParts(Check.bytes(n(5), n(60), 13, n(1), 6, 14), Check.bytes(n(1), n(2), n(3), 11));
        int j = Check.sign(x, "J", n(0), n(0), n(0), n(65), n(66), 12, 6);
        x.run(0);
        Check.due("12 width", x.width(1), 0);
        x.joined(j, 0);
        x.cut(0);
        Check.due("12 pieces stay", x.piece(0, 1), 6);
        Check.due("12 stack stays", x.stack(1), 60);
        Check.due("12 width up to a fault", x.width(Check.sign(x, "F", n(1), n(2), 13, n(1), n(3), 13, 2)), 3);
        x.cut(j);
        Check.due("11 pieces stay behind a cut", x.piece(0, 1), 6);
    }

    private static void wrongInputs() {
        TypeOne x = new TypeOne();
        Check.sign(x, "A", 14);
        Check.thrown("10 no sign", NO_SIGN, () -> x.run(1));
        Check.thrown("10 sign -1", NO_SIGN, () -> x.run(-1));
        Check.thrown("12 no sign", NO_SIGN, () -> x.width(1));
        Check.thrown("14 no sign first", NO_SIGN, () -> x.joined(1, 2));
        Check.thrown("14 i 2", INDEX, () -> x.joined(0, 2));
        Check.thrown("14 i -1", INDEX, () -> x.joined(0, -1));
        Check.thrown("13 24", ArrayIndexOutOfBoundsException.class, () -> x.stack(24));
        Check.thrown("13 -1", ArrayIndexOutOfBoundsException.class, () -> x.stack(-1));
    }
}
