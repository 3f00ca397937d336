/** The file's edges, sentence by sentence: each token, number, name and lack that the document names. */
public final class FileEdgeTest {
    private static final String CLEAR = "eexec ";
    private static final int TEXT = CLEAR.length() + 4;

    public static void main(String[] args) {
        bytesThatPart();
        bytesOfNames();
        bytesOfNumbers();
        numbersOfDigits();
        fullFile();
        fullFileThatLacks();
        entriesOfEncoding();
        onlyInTheirPlace();
        anyTokenAndByte();
        nothingBehind();
        sizesOfPrograms();
        toldAgain();
        whatIsNotAllThere();
        nothingMendsAFault();
        numbersWritten();
        namesWritten();
        takeIsTheFirst();
        Check.end();
    }

    private static int place(int at) {
        return -1 - at;
    }

    private static String signA() {
        return "/CharStrings /A " + Check.program(4, 14) + "end";
    }

    /** Bytes up to 32 part tokens and may stand behind eexec; others belong to one. */
    private static void bytesThatPart() {
        for (int b = 0; b < 256; b++) {
            char c = (char) b;
            TypeOne x = new TypeOne();
            int got = Check.read(x, Check.file("/Encoding" + c + "dup" + c + "1" + c + "/A" + c + "put" + c + "def eexec ",
                signA()));
            Check.due("3 read, parted by " + b, got == 1 && x.encoded(1) == 0 ? 1 : 0, b <= 32 ? 1 : 0);
            if (b <= 32) {
                Check.due("3 behind eexec: " + b, Check.readOf("eexec" + c, signA()), 1);
                Check.due("3 in the text: " + b, Check.readOf(CLEAR, signA().replace(" end", c + "end")), 1);
            } else {
                Check.due("3 no word end: " + b, Check.readOf(CLEAR, "/CharStrings end" + c),
                    place(TEXT + "/CharStrings end".length() + 1));
            }
        }
    }

    private static boolean isOfNames(int b) {
        return b > 32 && b < 127 && b != '/';
    }

    private static void bytesOfNames() {
        for (int b = 33; b < 256; b++) {
            char c = (char) b;
            int got = Check.readOf("/Encoding dup 1 /A" + c + " put def eexec ", "/CharStrings end");
            Check.due("3 a name with " + b, got, isOfNames(b) ? 0 : place(16));
            TypeOne x = new TypeOne();
            int signs = Check.read(x, Check.file(CLEAR, "/CharStrings /" + c + (isOfNames(b) ? " 4 RD 1234" : "") + " end"));
            Check.due("3 a sign's name " + b, signs, isOfNames(b) ? 1 : 0);
            if (signs == 1) {
                Check.due("9 a sign's name " + b, x.told(0, 0), b);
            }
            boolean made = true;
            try {
                new TypeOne().sign(b, 1);
            } catch (IllegalArgumentException e) {
                made = false;
            }
            Check.due("4 a name of " + b, made ? 1 : 0, isOfNames(b) ? 1 : 0);
        }
        for (int n = 0; n <= 14; n++) {
            String name = "abcdefghijklmn".substring(0, n);
            boolean is = n >= 1 && n <= 12;
            Check.due("3 a name of " + n, Check.readOf("/Encoding dup 1 /" + name + " put def eexec ", "/CharStrings end"),
                is ? 0 : place(16));
            Check.due("3 a sign's name of " + n,
                Check.readOf(CLEAR, "/CharStrings /" + name + (is ? " 4 RD 1234" : "") + " end"), is ? 1 : 0);
        }
    }

    private static void bytesOfNumbers() {
        for (int b = 33; b < 256; b++) {
            boolean digit = b >= '0' && b <= '9';
            for (String number : new String[] {"" + (char) b, "1" + (char) b, (char) b + "1"}) {
                Check.due("3 a code of " + b, Check.readOf("/Encoding dup " + number + " /A put def eexec ",
                    "/CharStrings end"), digit ? 0 : place(14));
            }
        }
    }

    private static void numbersOfDigits() {
        String[] good = {"7", "07", "007", "0007"};
        for (String number : good) {
            TypeOne x = new TypeOne();
            Check.due("3 code " + number, Check.read(x, Check.file("/Encoding dup " + number + " /A put def eexec ",
                signA())), 1);
            Check.due("8 code " + number, x.encoded(7), 0);
            Check.due("3 leads and program " + number, Check.readOf(CLEAR,
                "/lenIV " + number + " /CharStrings /A " + number + " RD 1234567 end"), 1);
            Check.due("3 subroutine " + number, Check.readOf(CLEAR,
                "/Subrs dup " + number + " 4 RD 1234 /CharStrings end"), 0);
        }
        for (String number : new String[] {"00007", "-7", "+7", "7.", "7e0", "9999"}) {
            Check.due("3 code " + number, Check.readOf("/Encoding dup " + number + " /A put def eexec ", signA()), place(14));
            Check.due("3 leads " + number, Check.readOf(CLEAR, "/lenIV " + number + " " + signA()), place(TEXT + 7));
            Check.due("3 subroutine " + number, Check.readOf(CLEAR, "/Subrs dup " + number + " 4 RD 1234"),
                place(TEXT + 11));
            Check.due("3 program " + number, Check.readOf(CLEAR, "/CharStrings /A " + number + " RD 1234567890"),
                place(TEXT + 16));
        }
    }

    /** 2,000 bytes, of which the last ends the word end; the refused one changes nothing. */
    private static void fullFile() {
        String text = signA();
        String clear = "x".repeat(2000 - 4 - text.length() - " eexec ".length()) + " eexec ";
        TypeOne x = new TypeOne();
        byte[] file = Check.file(clear, text);
        Check.due("3 its size", file.length, 2000);
        for (byte b : file) {
            x.add(b);
        }
        Check.thrown("2 a 2001st", UnsupportedOperationException.class, () -> x.add((byte) 0));
        Check.due("3 2000 bytes", x.read(), 1);
        for (int i = 0; i < 2000; i++) {
            x.add((byte) '/');
        }
        Check.due("3 one token of 2000 bytes", x.read(), place(2000));
        for (int i = 0; i < 2000; i++) {
            x.add((byte) 0);
        }
        Check.due("3 2000 bytes without a token", x.read(), place(2000));
    }

    /** Behind the 2,000th byte there is nothing, not even room. */
    private static void fullFileThatLacks() {
        String[] texts = {"", "/", "/lenIV", "/lenIV 8", "/Subrs dup", "/Subrs dup 1", "/Subrs dup 1 4", "/Subrs dup 1 4 RD",
            "/Subrs dup 1 4 RD 123", "/CharStrings /A", "/CharStrings /A 4", "/CharStrings /A 4 RD", "/CharStrings /A 4 RD ",
            "/CharStrings /A 4 RD 1", "/CharStrings /A 4 RD 123", "/CharStrings /A 4 RD 1234", "/CharStrings /A 259 RD 1",
            "/CharStrings en"};
        for (String text : texts) {
            String clear = "x".repeat(2000 - 4 - text.length() - " eexec ".length()) + " eexec ";
            Check.due("3 2000 bytes with [" + text + "]", Check.readOf(clear, text), place(2000));
        }
        String[] ends = {"eexec", "eexec ", "eexec 1", "eexec 123", "/Encoding", "/Encoding dup", "/Encoding dup 1",
            "/Encoding dup 1 /A", "/Encoding dup 1 /A put", "/Encoding dup 1 /A put def"};
        for (String end : ends) {
            String file = "x".repeat(2000 - 1 - end.length()) + " " + end;
            Check.due("3 2000 bytes up to [" + end + "]", Check.read(new TypeOne(), Check.latin(file)), place(2000));
        }
    }

    private static void entriesOfEncoding() {
        TypeOne x = new TypeOne();
        String clear = "def /Encoding def /Encoding /Encoding 256 dup 0 /A put x /A put 7 dup 255 /A put "
            + "dup 1 /A put dup 1 /B put eexec dup 2 /A put def dup 3 /A put def eexec ";
        Check.due("3 entries", Check.read(x, Check.file(clear, signA())), 1);
        int[] due = {0, -1, 0, -1};
        for (int i = 0; i < due.length; i++) {
            Check.due("8 code " + i, x.encoded(i), due[i]);
        }
        Check.due("8 code 255", x.encoded(255), 0);
        Check.due("3 /Encoding without def hides eexec", Check.readOf("/Encoding eexec ", signA()),
            place("/Encoding eexec ".length() + 4 + signA().length()));
    }

    /** dup is an entry's beginning only where the document says so; so are names and /lenIV. */
    private static void onlyInTheirPlace() {
        Check.due("3 dup outside", Check.readOf("dup x eexec ", "dup x " + signA()), 1);
        Check.due("3 /lenIV and /Subrs in the clear part", Check.readOf("/lenIV 9 /Subrs dup 99 eexec ", signA()), 1);
        Check.due("3 /Encoding in the text", Check.readOf(CLEAR, "/Encoding dup 999 eexec " + signA()), 1);
        Check.due("3 end before /CharStrings", Check.readOf(CLEAR, "end /A " + signA()), 1);
        Check.due("3 dup behind /CharStrings", Check.readOf(CLEAR, "/Subrs /CharStrings dup 99 end"), 0);
        Check.due("3 behind end", Check.readOf(CLEAR, signA() + " /B /lenIV 9 /Subrs dup 99 /CharStrings"), 1);
        Check.due("3 /lenIV behind /CharStrings is a sign", Check.readOf(CLEAR, "/CharStrings /lenIV 9 RD 123456789 end"), 1);
        TypeOne x = new TypeOne();
        Check.read(x, Check.file(CLEAR, "/CharStrings /lenIV 4 RD 1234 /A " + Check.program(4, 9, 14) + "end"));
        Check.due("3 and leads stay", x.run(1), 1);
        Check.due("3 names that are longer words", Check.readOf(CLEAR, "/lenIVs /Subr /CharString " + signA()), 1);
    }

    private static void anyTokenAndByte() {
        for (String token : new String[] {"RD", "-|", "end", "/A", "dup", "4", "/CharStrings", "\u00ff"}) {
            for (int b = 0; b <= 32; b++) {
                TypeOne x = new TypeOne();
                String program = Check.program(4, 9, 14).replaceFirst(" RD ", " " + token + (char) b);
                String text = "/Subrs dup 0 " + program + "/CharStrings /A " + program + "end";
                Check.due("3 token " + token + " and byte " + b, Check.read(x, Check.file(CLEAR, text)), 1);
                Check.due("10 token " + token + " and byte " + b, x.run(0), 1);
            }
        }
    }

    private static void nothingBehind() {
        Check.due("3 no subroutines", Check.readOf(CLEAR, "/Subrs /CharStrings end"), 0);
        Check.due("3 /Subrs twice", Check.readOf(CLEAR, "/Subrs /Subrs x /CharStrings y end"), 0);
        Check.due("3 no /Subrs", Check.readOf(CLEAR, "/CharStrings end"), 0);
    }

    private static String filler(int n) {
        return "z".repeat(n);
    }

    /** From the leads on, up to 255 more. */
    private static void sizesOfPrograms() {
        for (int leads = 0; leads <= 8; leads++) {
            String begin = "/lenIV " + leads + " /CharStrings /A ";
            for (int n : new int[] {leads - 1, leads, leads + 1, leads + 254, leads + 255, leads + 256}) {
                if (n < 0) {
                    continue;
                }
                TypeOne x = new TypeOne();
                boolean good = n >= leads && n <= leads + 255;
                int got = Check.read(x, Check.file(CLEAR, begin + n + " RD " + filler(n) + " end"));
                Check.due("3 " + n + " bytes with leads " + leads, got, good ? 1 : place(TEXT + begin.length()));
                if (got == 1) {
                    Check.due("9 " + n + " bytes with leads " + leads, x.told(0, -2), n - leads);
                }
                String subroutine = "/lenIV " + leads + " /Subrs dup 9 ";
                Check.due("3 a subroutine of " + n + " bytes with leads " + leads,
                    Check.readOf(CLEAR, subroutine + n + " RD " + filler(n) + " /CharStrings end"),
                    good ? 0 : place(TEXT + subroutine.length()));
            }
        }
    }

    /** What is told again counts from there on. */
    private static void toldAgain() {
        TypeOne x = new TypeOne();
        String text = "/lenIV 8 /lenIV 0 /Subrs dup 0 " + Check.program(0, 9, 11) + "/lenIV 3 dup 0 "
            + Check.program(3, 9, 9, 11) + "/Subrs dup 1 " + Check.program(3, 9, 11) + "/CharStrings /B "
            + Check.program(3, Check.n(0), 10, 14) + "/A " + Check.program(3, Check.n(1), 10, 14) + "/B "
            + Check.program(3, Check.n(1), 10, Check.n(0), 10, 14) + "end";
        Check.due("3 told again", Check.read(x, Check.file(CLEAR, text)), 2);
        Check.due("10 B in its old place", x.run(0), 3);
        Check.due("9 B in its old place", x.told(0, 0), 'B');
        Check.due("10 A", x.run(1), 1);
    }

    /** Cut behind each whole token and byte, it lacks the rest: the file's size. */
    private static void whatIsNotAllThere() {
        String[] clear = {"/Encoding", " ", "dup", " ", "1", " ", "/A", " ", "put", " ", "def", " ", "eexec", " "};
        String soFar = "";
        for (String part : clear) {
            Check.due("3 [" + soFar + "]", Check.read(new TypeOne(), Check.latin(soFar)), place(soFar.length()));
            soFar += part;
        }
        String[] text = {"", "/lenIV", " ", "2", " ", "/Subrs", " ", "dup", " ", "0", " ", "3", " ", "RD", " ", "a", "b", "c",
            " ", "/CharStrings", " ", "/A", " ", "2", " ", "RD", " ", "a", "b", " "};
        String whole = "";
        for (String part : text) {
            whole += part;
            byte[] file = Check.file(soFar, whole);
            Check.due("3 text [" + whole + "]", Check.read(new TypeOne(), file), place(file.length));
            for (int n = soFar.length(); n < soFar.length() + 4; n++) {
                Check.due("3 leads up to " + n, Check.read(new TypeOne(), java.util.Arrays.copyOf(file, n)), place(n));
            }
        }
        Check.due("3 all there", Check.readOf(soFar, whole + "end"), 1);
    }

    /** What follows a fault is not looked at, though it were all that is wanted. */
    private static void nothingMendsAFault() {
        String[] texts = {"/CharStrings /A 40 RD 1234 end ", "/Subrs dup 1 99 RD 1234 /CharStrings end ",
            "/CharStrings /A 259 RD /B 4 RD 1234 end "};
        for (String text : texts) {
            Check.due("3 text [" + text + "]", Check.readOf(CLEAR, text), place(TEXT + text.length()));
        }
        Check.due("3 two faults, code first", Check.readOf("/Encoding dup x y z eexec ", signA()), place(14));
        Check.due("3 two faults, name first", Check.readOf("/Encoding dup 1 y z eexec ", signA()), place(16));
        Check.due("3 put, then another fault", Check.readOf("/Encoding dup 1 /A z dup x eexec ", signA()), place(19));
        Check.due("3 leads, then another fault", Check.readOf(CLEAR, "/lenIV x /Subrs dup y"), place(TEXT + 7));
        Check.due("3 subroutine, then another fault", Check.readOf(CLEAR, "/Subrs dup x y"), place(TEXT + 11));
        Check.due("3 program, then another fault", Check.readOf(CLEAR, "/CharStrings /A x /B y"), place(TEXT + 16));
        Check.due("3 clear part before the text", Check.readOf("/Encoding dup x def eexec ", "/lenIV x"), place(14));
    }

    private static void numbersWritten() {
        for (int size : new int[] {0, 5, 6, 95, 96, 195, 196, 254, 255}) {
            TypeOne x = new TypeOne();
            Check.sign(x, "A", Check.times(size, 9));
            Check.subroutine(x, 9, Check.times(size, 11));
            Check.subroutine(x, 10, 11);
            String text = "/lenIV 4 /Subrs " + (size == 0 ? "" : "dup 9 " + Check.program(4, Check.times(size, 11)))
                + "dup 10 " + Check.program(4, 11) + "/CharStrings /A " + Check.program(4, Check.times(size, 9)) + "end ";
            byte[] want = Check.file("%!\n/Encoding def eexec ", text);
            Check.due("16 a program of " + size, java.util.Arrays.equals(Check.written(x), want) ? 1 : 0, 1);
        }
    }

    /** A name of twelve bytes, which only a file can give, and a name that no sign has. */
    private static void namesWritten() {
        TypeOne x = new TypeOne();
        Check.read(x, Check.file("/Encoding dup 8 /~!abcdefghij put dup 9 /none put def eexec ",
            "/CharStrings /~!abcdefghij " + Check.program(4, 14) + "end"));
        byte[] want = Check.file("%!\n/Encoding dup 8 /~!abcdefghij put dup 9 /none put def eexec ",
            "/lenIV 4 /Subrs /CharStrings /~!abcdefghij " + Check.program(4, 14) + "end ");
        Check.due("16 names", java.util.Arrays.equals(Check.written(x), want) ? 1 : 0, 1);
        Check.due("9 twelve bytes", x.told(0, -1), 12);
        Check.due("9 the last of twelve", x.told(0, 11), 'j');
        Check.thrown("9 no thirteenth", IndexOutOfBoundsException.class, () -> x.told(0, 12));
    }

    /** A subroutine of 96 bytes or more from number 10 on takes 19 bytes beside its own. */
    private static void fillTo2000(TypeOne x) {
        int spare = 2000 - x.seal();
        for (int i = 0; spare > 0; i++) {
            int whole = spare <= 274 ? spare : Math.min(274, spare - 115);
            Check.subroutine(x, i + 10, Check.times(whole - 19, 11));
            spare -= whole;
        }
    }

    private static void takeIsTheFirst() {
        TypeOne x = new TypeOne();
        Check.sign(x, "A", 9, 14);
        fillTo2000(x);
        Check.due("16 just 2000", x.seal(), 2000);
        Check.due("18 just 2000", x.take(), 2000);
        Check.due("3 just 2000", x.read(), 1);
        x.code(0, (byte) 9);
        Check.due("16 one more", x.seal(), 2001);
        Check.due("18 the first 2000 of one more", x.take(), 2000);
        Check.due("3 without the last blank", x.read(), 1);
        x.code(0, (byte) 9);
        Check.due("16 two more", x.seal(), 2002);
        Check.due("18 the first 2000 of two more", x.take(), 2000);
        Check.due("3 without the end", x.read(), place(2000));
        Check.thrown("17 the last of them", null, () -> x.octet(2001));
        Check.thrown("17 no more", ArrayIndexOutOfBoundsException.class, () -> x.octet(2002));
    }
}
