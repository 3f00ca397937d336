import java.util.NoSuchElementException;
import java.util.Random;

/** Runs of 512 calls by dice, always the same: only what the face names is thrown, and answers stay in their bounds. */
public final class StormTest {
    private static final int[] OPERATORS = {1, 3, 4, 5, 6, 7, 8, 9, 10, 11, 12, 13, 14, 21, 22, 30, 31};
    private static final int[] SECONDS = {0, 1, 2, 6, 7, 12, 16, 17, 33};

    public static void main(String[] args) {
        for (int seed = 0; seed < 3000; seed++) {
            storm(new Random(seed), seed);
        }
        for (int seed = 0; seed < 3000; seed++) {
            spoiledFile(new Random(seed));
        }
        Check.end();
    }

    private static void storm(Random dice, int seed) {
        TypeOne x = new TypeOne();
        for (int call = 0; call < 512; call++) {
            int which = dice.nextInt(24);
            try {
                answer(x, dice, which);
            } catch (UnsupportedOperationException | NoSuchElementException | IndexOutOfBoundsException e) {
                Check.due("seed " + seed + ": its own throw in call " + which, thrownByFace(e) ? 1 : 0, 1);
            } catch (IllegalArgumentException e) {
                Check.due("seed " + seed + ": illegal only by sign", which, 0);
            }
        }
        comesBack(x, seed);
    }

    /** The class throws without a text; the machine tells an index or a length. */
    private static boolean thrownByFace(RuntimeException e) {
        return e.getMessage() == null;
    }

    private static void answer(TypeOne x, Random dice, int which) {
        int sign = dice.nextInt(7) - 1;
        switch (which) {
            case 0 -> x.sign(32 + dice.nextInt(12) + (dice.nextInt(99) << 8), dice.nextInt(3));
            case 1, 2, 3, 4, 5, 6 -> x.code(sign, nextCode(dice));
            case 7, 8 -> number(x, sign, dice);
            case 9, 10 -> x.subroutine(dice.nextInt(5) - 1, nextCode(dice));
            case 11 -> x.encode(dice.nextInt(6) - 1, sign);
            case 12 -> within("encoded", x.encoded(dice.nextInt(6) - 1), -1, 63);
            case 13 -> within("told", x.told(sign, dice.nextInt(140) - 4), 0, 255);
            case 14 -> within("run", x.run(sign), -12, 200);
            case 15 -> x.piece(dice.nextInt(4), dice.nextInt(8));
            case 16 -> x.width(sign);
            case 17 -> x.stack(dice.nextInt(26) - 1);
            case 18 -> within("joined", x.joined(sign, dice.nextInt(3)), -1, 63);
            case 19 -> within("cut", dice.nextInt(5) == 0 ? x.cut(sign) : 0, -1, 63);
            case 20 -> x.seal();
            case 21 -> x.octet(dice.nextInt(200) - 1);
            case 22 -> x.take();
            default -> within("read", x.read(), -2001, 64);
        }
    }

    private static void number(TypeOne x, int sign, Random dice) {
        x.code(sign, (byte) Check.n(dice.nextInt(8) - 1));
    }

    private static byte nextCode(Random dice) {
        return switch (dice.nextInt(4)) {
            case 0 -> (byte) OPERATORS[dice.nextInt(OPERATORS.length)];
            case 1 -> (byte) SECONDS[dice.nextInt(SECONDS.length)];
            case 2 -> (byte) Check.n(dice.nextInt(8) - 1);
            default -> (byte) dice.nextInt(256);
        };
    }

    private static void within(String what, int got, int low, int high) {
        if (got < low || got > high) {
            Check.due(what + " within its bounds", got, low);
        }
    }

    /** What is written and read again is the same font. */
    private static void comesBack(TypeOne x, int seed) {
        byte[] before = Check.written(x);
        if (before.length > 2000) {
            return;
        }
        x.take();
        Check.due("seed " + seed + " reads again", x.read() >= 0 ? 1 : 0, 1);
        byte[] after = Check.written(x);
        Check.due("seed " + seed + " is the same", java.util.Arrays.equals(before, after) ? 1 : 0, 1);
    }

    private static void spoiledFile(Random dice) {
        byte[] text = Check.latin("/lenIV 4 /Subrs dup 0 " + Check.program(4, 9, 11) + "/CharStrings /A "
            + Check.program(4, 14) + "/B " + Check.program(4, 139, 10, 14) + "end ");
        byte[] clear = Check.latin("%! /Encoding dup 1 /A put dup 2 /B put def eexec ");
        for (int i = dice.nextInt(4); i > 0; i--) {
            text[dice.nextInt(text.length)] = (byte) dice.nextInt(256);
        }
        for (int i = dice.nextInt(3); i > 0; i--) {
            clear[dice.nextInt(clear.length)] = (byte) dice.nextInt(256);
        }
        byte[] file = Check.file(Check.latin(clear), Check.latin(text));
        int size = dice.nextInt(5) == 0 ? dice.nextInt(file.length) : file.length;
        TypeOne x = new TypeOne();
        within("read of a spoiled file", Check.read(x, java.util.Arrays.copyOf(file, size)), -1 - size, 64);
    }
}
