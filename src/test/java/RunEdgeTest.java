/** The edges of programs, sentence by sentence: numbers, stack, shelf, flex, subroutines, counts, joined signs. */
public final class RunEdgeTest {
    private static final int[] OPEN = {n(0), n(1), 12, 16};
    private static final int[] POINT = {n(0), n(2), 12, 16};
    private static final int[] JOINS = {n(0), n(0), n(0), n(65), n(66), 12, 6};
    private static final int[] MOST = {255, 127, 255, 255, 255};
    private static final int[] LEAST = {255, 128, 0, 0, 0};

    public static void main(String[] args) {
        everyNumber();
        numbersOfOperators();
        stackStays();
        sumsWrap();
        returns();
        callsBesideEachOther();
        division();
        takenForTheShelf();
        shelfIsAStack();
        flexByPoints();
        flexMovesAlone();
        flexFaultsInOrder();
        bytesThatBegin();
        pieceCount();
        partsHaveNothingOfTheSign();
        partsMoved();
        widthStays();
        partsThatAreNone();
        partsThatJoin();
        faultsOfParts();
        Check.end();
    }

    private static int n(int value) {
        return Check.n(value);
    }

    private static int[] closing(int x, int y) {
        return Check.bytes(n(0), n(x), n(y), n(3), n(0), 12, 16);
    }

    /** What the stack's first place has when the program is no more than the number. */
    private static int numberOf(int... bytes) {
        TypeOne x = new TypeOne();
        Check.due("10 the bytes end behind a number", Check.runOf(x, bytes), -6);
        return x.stack(0);
    }

    private static void everyNumber() {
        for (int b = 32; b <= 246; b++) {
            Check.due("10 byte " + b, numberOf(b), b - 139);
        }
        for (int low : new int[] {0, 1, 127, 128, 255}) {
            for (int b = 247; b <= 250; b++) {
                Check.due("10 bytes " + b + " " + low, numberOf(b, low), 108 + 256 * (b - 247) + low);
                Check.due("10 bytes " + (b + 4) + " " + low, numberOf(b + 4, low), -108 - 256 * (b - 247) - low);
            }
            Check.due("10 255 and highest " + low, numberOf(255, low, 0, 0, 0), low << 24);
            Check.due("10 255 and second " + low, numberOf(255, 0, low, 0, 0), low << 16);
            Check.due("10 255 and third " + low, numberOf(255, 0, 0, low, 0), low << 8);
            Check.due("10 255 and lowest " + low, numberOf(255, 0, 0, 0, low), low);
        }
        for (int b = 247; b <= 254; b++) {
            TypeOne x = new TypeOne();
            Check.due("10 " + b + " without its byte", Check.runOf(x, b), -6);
            Check.due("13 no number of " + b, x.stack(0), 0);
            Check.due("10 " + b + " without its byte, stack full",
                Check.runOf(Check.join(Check.times(24, n(9)), Check.bytes(b))), -6);
        }
        for (int left = 1; left <= 4; left++) {
            TypeOne x = new TypeOne();
            Check.due("10 255 without " + left, Check.runOf(x, Check.join(Check.bytes(255), Check.times(4 - left, 1))), -6);
            Check.due("13 no number of it", x.stack(0), 0);
        }
    }

    /** With none, and with all 24 on the stack: only the number in front will do. */
    private static void numbersOfOperators() {
        int[][] all = {
            {13, 2}, {1, 2}, {3, 2}, {21, 2}, {22, 1}, {4, 1}, {5, 2}, {6, 1}, {7, 1}, {8, 6}, {30, 4}, {31, 4},
            {9, 0}, {14, 0}, {256, 0}, {257, 6}, {258, 6}, {262, 5}, {263, 4}, {289, 2}};
        for (int[] row : all) {
            int[] op = row[0] < 256 ? Check.bytes(row[0]) : Check.bytes(12, row[0] - 256);
            for (int have = 0; have <= 24; have++) {
                int[] program = Check.join(Check.times(have, n(1)), op, Check.bytes(14));
                int got = Check.runOf(program);
                boolean joins = row[0] == 262;
                int due = have != row[1] ? -2 : joins ? -12 : got;
                Check.due("10 operator " + row[0] + " with " + have, got, due);
                Check.due("10 it has its numbers", have == row[1] && got == -2 ? 1 : 0, 0);
            }
        }
        Check.due("10 an operator that is none, before its numbers", Check.runOf(n(1), 2), -1);
        Check.due("10 11 with 24", Check.runOf(Check.join(Check.times(24, n(1)), Check.bytes(11))), 0);
    }

    private static void stackStays() {
        TypeOne x = new TypeOne();
        Check.due("10 stays", Check.runOf(x, n(1), n(2), n(3), n(4), 12, 7, n(9), 22, n(8), n(7), 5, 14), 2);
        int[] due = {8, 7, 3, 4, 0};
        for (int i = 0; i < due.length; i++) {
            Check.due("13 place " + i, x.stack(i), due[i]);
        }
        TypeOne y = new TypeOne();
        Check.due("10 a 25th", Check.runOf(y, Check.join(Check.times(24, n(9)), Check.bytes(n(5), 14))), -3);
        for (int i = 0; i < 24; i++) {
            Check.due("13 the 25th is nowhere", y.stack(i), 9);
        }
        TypeOne z = new TypeOne();
        Check.subroutine(z, 4, n(6), 11);
        Check.due("10 n of a call stays", Check.runOf(z, n(1), n(4), 14, 10), -2);
        Check.due("13 till it is written over", z.stack(1), 4);
        int s = Check.sign(z, "over", n(1), n(4), 10, n(0), 11);
        z.run(s);
        Check.due("13 written over by the subroutine", z.stack(1), 6);
        Check.due("13 behind it", z.stack(2), 0);
    }

    private static void sumsWrap() {
        TypeOne x = new TypeOne();
        Check.due("10 wrap", Check.runOf(x, Check.join(MOST, LEAST, Check.bytes(12, 33, n(1), n(-1), 21, 14))), 1);
        Check.row("11 a move wraps", Check.piece(x, 0), 0, Integer.MIN_VALUE, Integer.MAX_VALUE, 0, 0, 0, 0);
        TypeOne y = new TypeOne();
        Check.runOf(y, Check.join(MOST, MOST, Check.bytes(12, 33, n(1), n(2), n(1), n(1), n(1), n(1), 8, 14)));
        Check.row("11 a curve wraps", Check.piece(y, 0), 2, Integer.MIN_VALUE + 2, Integer.MIN_VALUE + 3,
            Integer.MIN_VALUE, Integer.MIN_VALUE + 1, Integer.MIN_VALUE + 1, Integer.MIN_VALUE + 2);
        TypeOne z = new TypeOne();
        z.encode(65, Check.sign(z, "A", 14));
        z.encode(66, Check.sign(z, "B", Check.join(MOST, MOST, Check.bytes(12, 33, 9, 14))));
        int j = Check.sign(z, "J", Check.join(LEAST, Check.bytes(n(7), 13, n(1), n(3), n(1), n(65), n(66), 12, 6)));
        Check.due("10 a part wraps", z.run(j), 1);
        Check.row("11 a part wraps", Check.piece(z, 0), 3, 1, Integer.MIN_VALUE, 0, 0, 0, 0);
        Check.due("12 a width as large as can be", z.width(Check.sign(z, "W", Check.join(
            Check.bytes(n(0)), LEAST, Check.bytes(13, 14)))), Integer.MIN_VALUE);
    }

    private static void returns() {
        Check.due("10 11 in the sign's own program", Check.runOf(9, 11, 2), 1);
        TypeOne x = new TypeOne();
        Check.subroutine(x, 0, 9, 11, 2);
        Check.due("10 11 in a subroutine", Check.runOf(x, n(0), 10, 9, 14), 2);
        TypeOne y = new TypeOne();
        Check.subroutine(y, 0, n(1), 10);
        Check.subroutine(y, 1, 11);
        Check.due("10 11 comes back to the subroutine, whose bytes end", Check.runOf(y, n(0), 10, 14), -6);
        TypeOne z = new TypeOne();
        Check.subroutine(z, 0, 247);
        Check.due("10 a number does not go on behind a subroutine", Check.runOf(z, n(0), 10, 14), -6);
        TypeOne w = new TypeOne();
        Check.subroutine(w, 0, 12);
        Check.due("10 nor does 12", Check.runOf(w, n(0), 10, 0, 14), -6);
    }

    private static void callsBesideEachOther() {
        TypeOne x = new TypeOne();
        Check.subroutine(x, 0, 9, 11);
        Check.due("10 beside each other", Check.runOf(x, Check.join(Check.times(60, n(0), 10), Check.bytes(14))), 60);
        for (int bad : new int[] {-107, -1, 1, 62, 64, 107}) {
            TypeOne y = new TypeOne();
            Check.subroutine(y, 0, 11);
            Check.subroutine(y, 63, 11);
            Check.due("10 subroutine " + bad, Check.runOf(y, n(bad), 10, 14), -4);
        }
        TypeOne z = new TypeOne();
        Check.subroutine(z, 0, 11);
        Check.subroutine(z, 63, 11);
        Check.due("10 subroutines 0 and 63", Check.runOf(z, n(0), 10, n(63), 10, 14), 0);
        Check.due("10 the largest number", Check.runOf(Check.join(MOST, Check.bytes(10))), -4);
        Check.due("10 the lowest number", Check.runOf(Check.join(LEAST, Check.bytes(10))), -4);
    }

    private static int quotient(int a, int b) {
        TypeOne x = new TypeOne();
        Check.due("10 " + a + " by " + b, Check.runOf(x, n(a), n(b), 12, 12, 11), 0);
        return x.stack(0);
    }

    private static void division() {
        int[][] rows = {{7, 2, 3}, {-7, 2, -3}, {7, -2, -3}, {-7, -2, 3}, {0, 5, 0}, {1, 2, 0}, {-1, 2, 0}, {6, 3, 2}};
        for (int[] row : rows) {
            Check.due("13 " + row[0] + " by " + row[1], quotient(row[0], row[1]), row[2]);
        }
        Check.due("10 0 by 0", Check.runOf(n(0), n(0), 12, 12), -8);
        Check.due("10 without a number", Check.runOf(12, 12), -2);
        Check.due("10 0 alone is no division", Check.runOf(n(0), 12, 12), -2);
        TypeOne x = new TypeOne();
        Check.due("10 with a full stack", Check.runOf(x, Check.join(Check.times(24, n(9)), Check.bytes(12, 12, n(5), 11))), 0);
        Check.due("13 the quotient", x.stack(22), 1);
        Check.due("13 there is room again", x.stack(23), 5);
    }

    /** n may be all that is there, no more; k is any number. */
    private static void takenForTheShelf() {
        int[] back = Check.times(22, 12, 17);
        Check.due("10 n 22 with a full stack", Check.runOf(Check.join(Check.times(22, n(9)),
            Check.bytes(n(22), n(3), 12, 16), back, Check.bytes(11))), 0);
        Check.due("10 n 23 with a full stack", Check.runOf(Check.join(Check.times(22, n(9)),
            Check.bytes(n(23), n(3), 12, 16))), -2);
        int[][] ks = {{n(3)}, {n(-1)}, {n(107)}, MOST, LEAST};
        for (int[] k : ks) {
            Check.due("10 k as it likes", Check.runOf(Check.join(Check.bytes(n(4), n(1)), k,
                Check.bytes(12, 16, 12, 17, 6, 14))), 1);
        }
        for (int[] count : new int[][] {MOST, LEAST, {n(-1)}, {n(2)}}) {
            for (int k : new int[] {0, 1, 2, 3}) {
                Check.due("10 n as it may not be", Check.runOf(Check.join(Check.bytes(n(4)), count,
                    Check.bytes(n(k), 12, 16))), -2);
            }
        }
        for (int k = 0; k <= 2; k++) {
            for (int have = 0; have <= 4; have++) {
                int due = have == (k == 0 ? 3 : 0) ? k == 1 ? 0 : -7 : -2;
                Check.due("10 k " + k + " with n " + have, Check.runOf(Check.join(Check.times(have, n(5)),
                    Check.bytes(n(have), n(k), 12, 16, 14))), due);
            }
        }
        Check.due("10 12 16 alone", Check.runOf(12, 16), -2);
        Check.due("10 numbers below stay", Check.runOf(n(7), n(5), n(1), n(3), 12, 16, 6, 14), 1);
    }

    private static void shelfIsAStack() {
        TypeOne x = new TypeOne();
        Check.due("10 two rows on the shelf", Check.runOf(x, n(1), n(2), n(2), n(3), 12, 16, n(3), n(4), n(2), n(5), 12, 16,
            12, 17, 12, 17, 12, 17, 12, 17, 11), 0);
        int[] due = {3, 4, 1, 2};
        for (int i = 0; i < due.length; i++) {
            Check.due("13 from the top " + i, x.stack(i), due[i]);
        }
        Check.due("10 the shelf is empty again", Check.runOf(n(1), n(1), n(3), 12, 16, 12, 17, 12, 17), -11);
        TypeOne y = new TypeOne();
        Check.subroutine(y, 0, n(5), n(1), n(3), 12, 16, 11);
        Check.due("10 one shelf for all subroutines", Check.runOf(y, n(0), 10, 12, 17, 6, 14), 1);
    }

    private static int[] sevenPoints() {
        int[] all = OPEN;
        for (int i = 0; i < 7; i++) {
            all = Check.join(all, Check.bytes(n(10 * i), n(i), 12, 33), POINT);
        }
        return all;
    }

    private static void flexByPoints() {
        TypeOne x = new TypeOne();
        Check.due("10 flex", Check.runOf(x, Check.join(sevenPoints(), closing(80, 90),
            Check.bytes(9, n(1), 22, 12, 17, 12, 17, 11))), 4);
        Check.row("11 points 1, 2, 3", Check.piece(x, 0), 2, 30, 3, 10, 1, 20, 2);
        Check.row("11 points 4, 5, 6", Check.piece(x, 1), 2, 60, 6, 40, 4, 50, 5);
        Check.row("11 the point where it is", Check.piece(x, 2), 3, 60, 6, 0, 0, 0, 0);
        Check.row("11 moves are moves again", Check.piece(x, 3), 0, 61, 6, 0, 0, 0, 0);
        Check.due("13 x on top", x.stack(0), 80);
        Check.due("13 y below", x.stack(1), 90);
        TypeOne y = new TypeOne();
        Check.due("10 a flex opened anew has no points", Check.runOf(y, Check.join(sevenPoints(), OPEN, closing(0, 0))), -7);
        Check.due("10 and takes seven", Check.runOf(Check.join(sevenPoints(), sevenPoints(), closing(0, 0),
            Check.bytes(14))), 2);
        Check.due("10 two flexes", Check.runOf(Check.join(sevenPoints(), closing(0, 0), OPEN, POINT, POINT, POINT, POINT,
            POINT, POINT, POINT, closing(0, 0), Check.bytes(14))), 4);
    }

    private static void flexMovesAlone() {
        TypeOne x = new TypeOne();
        Check.due("10 in a flex", Check.runOf(x, Check.join(OPEN, Check.bytes(n(1), n(2), 21, n(4), 22, n(8), 4, 9,
            n(1), 6, n(1), 7, n(1), n(1), 5, n(1), n(1), n(1), n(1), 30, 14))), 5);
        Check.row("11 the point has moved", Check.piece(x, 0), 3, 5, 10, 0, 0, 0, 0);
        Check.row("11 lines are lines", Check.piece(x, 1), 1, 6, 10, 0, 0, 0, 0);
        Check.due("11 curves are curves", x.piece(4, 0), 2);
        Check.due("10 the end in a flex", Check.runOf(Check.join(OPEN, Check.bytes(14))), 0);
    }

    private static void flexFaultsInOrder() {
        for (int count = 0; count <= 6; count++) {
            Check.due("10 closed with " + count, Check.runOf(Check.join(OPEN, Check.times(count, POINT), closing(0, 0))), -7);
        }
        Check.due("10 seven", Check.runOf(Check.join(OPEN, Check.times(7, POINT), closing(0, 0), Check.bytes(14))), 2);
        Check.due("10 an eighth", Check.runOf(Check.join(OPEN, Check.times(8, POINT))), -7);
        Check.due("10 a point when it is open no more",
            Check.runOf(Check.join(OPEN, Check.times(7, POINT), closing(0, 0), POINT)), -7);
        Check.due("10 wrong numbers before no flex", Check.runOf(n(0), n(0), n(2), n(0), 12, 16), -2);
    }

    /** Numbers of many bytes and operators of two count as one. */
    private static void bytesThatBegin() {
        TypeOne x = new TypeOne();
        int[] step = Check.join(MOST, LEAST, Check.bytes(12, 33));
        Check.subroutine(x, 0, Check.join(Check.times(21, step), Check.bytes(11)));
        int[] almost = Check.join(Check.times(30, n(0), 10), Check.times(6, step), Check.bytes(12, 0));
        Check.due("10 2000 with the end", Check.runOf(x, Check.join(almost, Check.bytes(14))), 0);
        int[][] more = {{14}, {9}, {n(0)}, {255}, {12}, {2}, {247, 1}};
        for (int i = 0; i < more.length; i++) {
            int s = Check.sign(x, "m" + i, Check.join(almost, Check.bytes(12, 0), more[i]));
            Check.due("10 a 2001st, " + i, x.run(s), -10);
        }
        Check.due("10 no 2001st", x.run(Check.sign(x, "none", Check.join(almost, Check.bytes(12, 0)))), -6);
        Check.due("10 counted anew by the next run", x.run(0), 0);
        TypeOne y = new TypeOne();
        Check.subroutine(y, 0, Check.join(Check.times(254, n(0)), Check.bytes(11)));
        Check.due("10 a fault before the 2001st", Check.runOf(y, n(0), 10), -3);
    }

    private static void pieceCount() {
        int[][] makers = {{n(1), 22}, {n(1), 6}, {n(1), n(1), n(1), n(1), 30}, {9}};
        for (int i = 0; i < makers.length; i++) {
            TypeOne x = new TypeOne();
            Check.subroutine(x, 0, Check.join(Check.times(40, makers[i]), Check.bytes(11)));
            int[] calls = Check.times(5, n(0), 10);
            Check.due("10 200 pieces of kind " + i, Check.runOf(x, Check.join(calls, Check.bytes(14))), 200);
            Check.due("11 the last", x.piece(199, 0), i);
            int s = Check.sign(x, "more", Check.join(calls, makers[i], Check.bytes(14)));
            Check.due("10 a 201st of kind " + i, x.run(s), -9);
            Check.thrown("11 it is none", IndexOutOfBoundsException.class, () -> x.piece(200, 0));
            int t = Check.sign(x, "flex", Check.join(calls, OPEN, Check.bytes(n(1), 22, 14)));
            Check.due("10 a move in a flex is no piece", x.run(t), 200);
            int u = Check.sign(x, "few", makers[i][0], 14);
            x.run(u);
            Check.thrown("11 of the latest run", IndexOutOfBoundsException.class, () -> x.piece(1, 0));
        }
    }

    private static TypeOne withParts(int[] first, int[] second) {
        TypeOne x = new TypeOne();
        x.encode(65, Check.sign(x, "A", first));
        x.encode(66, Check.sign(x, "B", second));
        return x;
    }

    /** What the sign has on its shelf, in its flex and at its point is not for the first, nor for the second. */
    private static void partsHaveNothingOfTheSign() {
        int[] own = Check.join(Check.bytes(n(7), n(9), 13, n(5), n(1), n(3), 12, 16), OPEN, POINT, JOINS);
        int[] end = {14};
        int[][] asking = {{12, 17}, POINT, {6}, Check.join(closing(0, 0))};
        int[] due = {-11, -7, -2, -7};
        for (int i = 0; i < asking.length; i++) {
            TypeOne x = withParts(asking[i], end);
            Check.due("10 asked by the first, " + i, x.run(Check.sign(x, "J", own)), due[i]);
            TypeOne y = withParts(end, asking[i]);
            Check.due("10 asked by the second, " + i, y.run(Check.sign(y, "J", own)), due[i]);
        }
        TypeOne z = withParts(Check.bytes(n(1), 22, 9, 14), Check.bytes(n(1), 22, 9, 14));
        Check.due("10 without a flex, moves are pieces", z.run(Check.sign(z, "J", own)), 4);
        Check.row("11 the first from (0, 0)", Check.piece(z, 0), 0, 1, 0, 0, 0, 0, 0);
        Check.row("11 the second from (0, 0), by the side", Check.piece(z, 2), 0, 8, 0, 0, 0, 0, 0);
        int[] full = Check.join(Check.times(24, n(3)), Check.bytes(11));
        TypeOne w = withParts(full, full);
        int j = Check.sign(w, "J", JOINS);
        Check.due("10 24 numbers each", w.run(j), 0);
        Check.due("13 not of the parts", w.stack(23), 0);
        Check.due("13 of the sign", w.stack(4), 66);
    }

    private static void partsMoved() {
        int[] part = Check.join(Check.bytes(n(2), n(50), 13, 9, n(4), n(5), 12, 33, 9), OPEN, Check.times(7, POINT),
            closing(0, 0), Check.bytes(14));
        TypeOne x = withParts(part, part);
        int j = Check.sign(x, "J", n(10), n(90), 13, n(3), n(20), n(30), n(65), n(66), 12, 6);
        Check.due("10 joined", x.run(j), 8);
        Check.row("11 the first", Check.piece(x, 0), 3, 2, 0, 0, 0, 0, 0);
        Check.row("11 the first, point set", Check.piece(x, 1), 3, 4, 5, 0, 0, 0, 0);
        Check.row("11 the first, flex", Check.piece(x, 2), 2, 4, 5, 4, 5, 4, 5);
        Check.row("11 the second", Check.piece(x, 4), 3, 29, 30, 0, 0, 0, 0);
        Check.row("11 the second, point set", Check.piece(x, 5), 3, 31, 35, 0, 0, 0, 0);
        Check.row("11 the second, flex", Check.piece(x, 7), 2, 31, 35, 31, 35, 31, 35);
        int k = Check.sign(x, "K", n(10), n(1), n(90), n(0), 12, 7, n(3), n(20), n(30), n(65), n(66), 12, 6);
        Check.due("10 the side of 12 7", x.run(k), 8);
        Check.row("11 the side of 12 7", Check.piece(x, 4), 3, 29, 30, 0, 0, 0, 0);
        int m = Check.sign(x, "M", n(3), n(20), n(30), n(65), n(66), 12, 6);
        Check.due("10 without a side", x.run(m), 8);
        Check.row("11 without a side", Check.piece(x, 4), 3, 19, 30, 0, 0, 0, 0);
    }

    private static void widthStays() {
        int[] part = {n(2), n(50), 13, 14};
        TypeOne x = withParts(part, part);
        Check.due("12 of the sign", x.width(Check.sign(x, "J", Check.join(Check.bytes(n(1), n(90), 13), JOINS))), 90);
        Check.due("12 none before", x.width(Check.sign(x, "K", JOINS)), 0);
        Check.due("12 the later one", x.width(Check.sign(x, "L", n(1), n(90), 13, n(1), n(2), n(91), n(4), 12, 7, 14)), 91);
        Check.due("12 up to a fault", x.width(Check.sign(x, "M", n(1), n(90), 13, 2)), 90);
        Check.due("12 no width before a fault", x.width(Check.sign(x, "N", n(90), 13)), 0);
        Check.due("12 an empty program", x.width(Check.sign(x, "O")), 0);
        TypeOne y = withParts(Check.bytes(n(2), n(50), 13, 2), part);
        int j = Check.sign(y, "J", Check.join(Check.bytes(n(1), n(90), 13), JOINS));
        Check.due("10 a fault of the first", y.run(j), -1);
        Check.due("12 a fault of the first", y.width(j), 90);
    }

    /** Looked at before the first one is run, so nothing of it is there. */
    private static void partsThatAreNone() {
        int[][] codes = {{n(67)}, {n(-1)}, {n(-107)}, {247, 148}, MOST, LEAST};
        for (int[] code : codes) {
            TypeOne x = withParts(Check.bytes(9, 14), Check.bytes(9, 14));
            int first = Check.sign(x, "first", Check.join(Check.bytes(9, n(0), n(0), n(0)), code, Check.bytes(n(66), 12, 6)));
            int second = Check.sign(x, "second", Check.join(Check.bytes(9, n(0), n(0), n(0), n(65)), code, Check.bytes(12, 6)));
            for (int s : new int[] {first, second}) {
                Check.due("10 none", x.run(s), -12);
                Check.due("11 its own piece", x.piece(0, 0), 3);
                Check.thrown("11 none of the first", IndexOutOfBoundsException.class, () -> x.piece(1, 0));
                Check.due("14 joins none", x.joined(s, 0), -1);
                Check.due("14 joins none, second", x.joined(s, 1), -1);
            }
            Check.due("15 what is not joined may go", x.cut(1), 3);
        }
        TypeOne y = withParts(Check.bytes(9, 14), Check.bytes(9, 14));
        y.encode(0, 0);
        y.encode(255, 1);
        int s = Check.sign(y, "edge", n(0), n(0), n(0), n(0), 247, 147, 12, 6);
        Check.due("10 codes 0 and 255", y.run(s), 2);
        Check.due("14 code 255", y.joined(s, 1), 1);
    }

    private static void partsThatJoin() {
        TypeOne x = withParts(Check.join(Check.bytes(9, 9), JOINS), Check.bytes(9, 14));
        int j = Check.sign(x, "J", JOINS);
        Check.due("10 the first joins", x.run(j), -12);
        Check.due("11 when it comes to that", x.piece(1, 0), 3);
        Check.thrown("11 the second is not run", IndexOutOfBoundsException.class, () -> x.piece(2, 0));
        Check.due("14 both are found", x.joined(j, 0), 0);
        Check.due("14 both are found, second", x.joined(j, 1), 1);
        Check.due("15 so it may not go", x.cut(1), -1);
        TypeOne y = withParts(Check.bytes(9, 14), Check.join(Check.bytes(9), JOINS));
        int k = Check.sign(y, "K", JOINS);
        Check.due("10 the second joins", y.run(k), -12);
        Check.due("11 up to that", y.piece(1, 0), 3);
        TypeOne z = withParts(Check.join(Check.bytes(14), JOINS), Check.join(Check.bytes(11), JOINS));
        Check.due("10 it does not come to that", z.run(Check.sign(z, "L", JOINS)), 0);
        TypeOne w = withParts(Check.bytes(n(0), 12, 6), Check.bytes(14));
        Check.due("10 the numbers come first", w.run(Check.sign(w, "M", JOINS)), -2);
    }

    /** All faults but 10, which needs more bytes than one part has. */
    private static void faultsOfParts() {
        int[] faults = {1, 2, 3, 4, 5, 6, 7, 8, 9, 11, 12};
        int[][] bad = {{2}, {n(1), 14}, Check.times(25, n(1)), {n(9), 10}, {n(8), 10}, {}, POINT,
            {n(1), n(0), 12, 12}, Check.times(201, 9), {12, 17}, JOINS};
        for (int i = 0; i < bad.length; i++) {
            TypeOne x = withParts(bad[i], Check.bytes(14));
            Check.subroutine(x, 8, n(8), 10);
            Check.due("10 fault of the first", x.run(Check.sign(x, "J", JOINS)), -faults[i]);
            TypeOne y = withParts(Check.bytes(14), bad[i]);
            Check.subroutine(y, 8, n(8), 10);
            int j = Check.sign(y, "J", JOINS);
            Check.due("10 fault of the second", y.run(j), -faults[i]);
            Check.due("14 fault " + faults[i] + " of the second", y.joined(j, 1), 1);
        }
    }
}
