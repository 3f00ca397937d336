/** Promises 3 and 16 to 18: files read, and written and sealed anew. */
public final class FileTest {
    private static final String CLEAR = "%! eexec ";
    private static final Class<?> BEYOND = ArrayIndexOutOfBoundsException.class;

    public static void main(String[] args) {
        clearPart();
        clearFaults();
        text();
        leads();
        anyLeads();
        textFaults();
        programFaults();
        manySigns();
        faultChangesNothing();
        readReplacesAll();
        written();
        take();
        Check.end();
    }

    private static int place(int at) {
        return -1 - at;
    }

    /** How a file with these encoding tokens reads; it has one sign, A. */
    private static TypeOne encodedBy(String clear) {
        TypeOne x = new TypeOne();
        int got = Check.read(x, Check.file(clear, "/CharStrings /A " + Check.program(4, 14) + "end"));
        Check.due("3 [" + clear + "]", got, 1);
        return x;
    }

    private static void clearPart() {
        TypeOne x = encodedBy("%!\n/Encoding 256 array dup 7 /B put dup 7 /A put eexec eexecs /Encoding def "
            + "dup 9 /A put /Encoding dup\t0255\0/A put def readonly xeexec eexec\n");
        Check.due("3 the later name", x.encoded(7), 0);
        Check.due("3 no entry outside", x.encoded(9), -1);
        Check.due("3 /Encoding again", x.encoded(255), 0);
        TypeOne y = encodedBy("dup 1 2 3 /Encodings dup def /Encoding dup 0 /abcdefghijkl put defs def eexec ");
        Check.due("3 a name without a sign", y.encoded(0), -1);
        Check.due("3 a name without a sign is written",
            Check.latin(Check.written(y)).indexOf("%!\n/Encoding dup 0 /abcdefghijkl put def eexec "), 0);
        encodedBy("eexec\0");
        encodedBy("/Encoding dup 1 /Encoding put def eexec ");
    }

    private static void clearFault(String clear, int at) {
        Check.due("3 [" + clear + "]", Check.read(new TypeOne(), Check.latin(clear)), place(at));
    }

    private static void clearFaults() {
        clearFault("", 0);
        clearFault("abc", 3);
        clearFault("eexec", 5);
        clearFault("eexec ", 6);
        clearFault("eexec 123", 9);
        clearFault("eexec 1234", 10);
        clearFault("/Encoding eexec 123456789012345", 31);
        clearFault("/Encoding dup", 13);
        clearFault("/Encoding dup ", 14);
        clearFault("/Encoding dup 1", 15);
        clearFault("/Encoding dup 1 /A", 18);
        clearFault("/Encoding dup 256 /A put", 14);
        clearFault("/Encoding dup 00001 /A put", 14);
        clearFault("/Encoding dup -1 /A put", 14);
        clearFault("/Encoding dup def", 14);
        clearFault("/Encoding dup 1 A put", 16);
        clearFault("/Encoding dup 1 / put", 16);
        clearFault("/Encoding dup 1 /abcdefghijklm put", 16);
        clearFault("/Encoding dup 1 /A/B put", 16);
        clearFault("/Encoding dup 1 /A\u0080 put", 16);
        clearFault("/Encoding dup 1 /A\u007f put", 16);
        clearFault("/Encoding dup 1 /A puts", 19);
        clearFault("/Encoding dup 1 /A dup", 19);
        clearFault("/Encoding dup 1 /A but", 19);
    }

    private static void text() {
        TypeOne x = new TypeOne();
        String text = "dup 99 end /Private /lenIV 4 /Subrs 3 array dup 2 " + Check.program(4, 2) + "NP /Subrs "
            + "dup 2 " + Check.program(4, 9, 11) + "dup 63 " + Check.program(4, 14) + "/CharStrings 5 dict dup begin "
            + "/A " + Check.program(4, 14) + "ND /lenIV " + Check.program(4, Check.n(2), 10, 14)
            + "/Subrs " + Check.program(4, Check.n(63), 10) + "/CharStrings " + Check.program(4)
            + "/ /A/A /toolongatoken /\u0080 /A " + Check.program(4, 9, 9, 14) + "end /B 1 /C";
        Check.due("3 the text", Check.read(x, Check.file(CLEAR, text)), 4);
        Check.due("3 in place of that one", x.run(0), 2);
        Check.due("3 lenIV as a sign's name, the later subroutine", x.run(1), 1);
        Check.due("3 Subrs as a sign's name", x.run(2), 0);
        Check.due("3 an empty program", x.run(3), -6);
        Check.due("3 names", x.told(3, -1), 11);
        Check.due("3 no signs", Check.readOf(CLEAR, "/CharStrings end"), 0);
        Check.due("3 tokens right behind a program",
            Check.readOf(CLEAR, "/CharStrings /A " + Check.program(4, 14).stripTrailing() + "end"), 1);
        TypeOne y = new TypeOne();
        Check.read(y, Check.file(CLEAR, "/Subrs dup 0 " + Check.program(4) + "/CharStrings /A "
            + Check.program(4, Check.n(0), 10) + "end"));
        Check.due("3 a subroutine without bytes is none", y.run(0), -4);
    }

    private static void leads() {
        for (int n = 0; n <= 8; n++) {
            TypeOne x = new TypeOne();
            String text = "/lenIV " + n + " /Subrs dup 0 " + Check.program(n, 9, 11) + "/CharStrings /A "
                + Check.program(n, Check.n(0), 10, 14) + "end";
            Check.due("3 leads " + n, Check.read(x, Check.file(CLEAR, text)), 1);
            Check.due("3 run with leads " + n, x.run(0), 1);
        }
        TypeOne y = new TypeOne();
        String text = "/Subrs dup 0 " + Check.program(4, 9, 11) + "/lenIV 1 dup 1 " + Check.program(1, 9, 11)
            + "/lenIV 0 /CharStrings /A " + Check.program(0, Check.n(0), 10, Check.n(1), 10, 14) + "end";
        Check.due("3 leads again", Check.read(y, Check.file(CLEAR, text)), 1);
        Check.due("3 run with leads again", y.run(0), 2);
    }

    /** What the leads are plain does not matter. */
    private static void anyLeads() {
        String program = "7 RD " + Check.latin(Check.sealed(Check.latin("/9 \377\11\11\16"), 0, 4330));
        String text = "0end/CharStrings /A " + program + " end";
        TypeOne x = new TypeOne();
        for (byte b : Check.latin("eexec ")) {
            x.add(b);
        }
        Check.due("3 leads that are not zeros", Check.read(x, Check.sealed(Check.latin(text), 0, 55665)), 1);
        Check.due("3 the program", x.run(0), 2);
    }

    /** The fault's place is told within the text. */
    private static void textFault(String text, int at) {
        Check.due("3 text [" + text + "]", Check.readOf(CLEAR, text), place(CLEAR.length() + 4 + at));
    }

    private static void endFault(String text) {
        textFault(text, text.length());
    }

    private static void textFaults() {
        endFault("");
        endFault("end ");
        endFault("/CharStrings");
        endFault("/CharStrings ends /end");
        endFault("/lenIV");
        endFault("/Subrs dup");
        endFault("/Subrs dup 1");
        endFault("/CharStrings /A");
        textFault("/lenIV 9 /CharStrings end", 7);
        textFault("/lenIV x /CharStrings end", 7);
        textFault("/lenIV /CharStrings end", 7);
        textFault("/Subrs dup 64 4 RD 1234 ", 11);
        textFault("/Subrs dup x", 11);
        textFault("/Subrs /lenIV 10", 14);
        textFault("/CharStrings /A end", 16);
        textFault("/CharStrings /A /B 4 RD 1234 end", 16);
    }

    private static void programFaults() {
        textFault("/CharStrings /A 3 RD 123 end", 16);
        textFault("/CharStrings /A 260 RD 1234 end", 16);
        textFault("/lenIV 8 /CharStrings /A 264 RD 1234 end", 25);
        textFault("/lenIV 8 /CharStrings /A 7 RD 1234567 end", 25);
        textFault("/CharStrings /A 00010 RD ", 16);
        endFault("/CharStrings /A 4");
        endFault("/CharStrings /A 4 RD");
        endFault("/CharStrings /A 4 RD ");
        endFault("/CharStrings /A 4 RD 123");
        endFault("/CharStrings /A 4 RD 1234");
        endFault("/lenIV 0 /CharStrings /A 0 RD");
        endFault("/lenIV 0 /CharStrings /A 0 RD ");
        String most = "/lenIV 8 /CharStrings /A " + Check.program(8, Check.times(255, 9)) + "end";
        TypeOne x = new TypeOne();
        Check.due("3 255 bytes", Check.read(x, Check.file(CLEAR, most)), 1);
        Check.due("3 all of them", x.told(0, -2), 255);
    }

    private static void manySigns() {
        StringBuilder text = new StringBuilder("/lenIV 0 /CharStrings ");
        for (int i = 0; i < 64; i++) {
            text.append("/s").append(i).append(' ').append(Check.program(0, 14));
        }
        Check.due("3 64 signs", Check.readOf(CLEAR, text + "end"), 64);
        Check.due("3 64 signs, one again", Check.readOf(CLEAR, text + "/s3 " + Check.program(0) + "end"), 64);
        Check.due("3 64 signs, the first again", Check.readOf(CLEAR, text + "/s0 " + Check.program(0) + "end"), 64);
        textFault(text + "/more 1 RD x end", text.length());
        textFault(text + "/more", text.length());
    }

    private static void faultChangesNothing() {
        TypeOne x = new TypeOne();
        int a = Check.sign(x, "A", 9, 14);
        x.encode(3, a);
        Check.subroutine(x, 1, 11);
        x.run(a);
        int size = x.seal();
        String text = "/Subrs dup 1 " + Check.program(4, 14) + "/CharStrings /A " + Check.program(4) + "/B x";
        byte[] file = Check.file("/Encoding dup 3 /B put def eexec ", text);
        Check.due("3 a fault", Check.read(x, file), place(file.length - 1));
        Check.due("3 signs stay", x.told(a, -2), 2);
        Check.due("3 the encoding stays", x.encoded(3), a);
        Check.due("3 subroutines stay", x.subroutine(1, (byte) 11), 2);
        Check.due("3 pieces stay", x.piece(0, 0), 3);
        Check.thrown("3 what was written stays", BEYOND, () -> x.octet(size));
        Check.due("3 the bytes are taken", x.read(), -1);
    }

    private static void readReplacesAll() {
        TypeOne x = new TypeOne();
        x.encode(3, Check.sign(x, "A", 14));
        x.encode(4, Check.sign(x, "B", 14));
        Check.subroutine(x, 1, 14);
        Check.due("3 read", Check.read(x, Check.file("/Encoding dup 4 /C put def eexec ",
            "/CharStrings /C " + Check.program(4, Check.n(1), 10) + "end")), 1);
        Check.due("3 the file's sign", x.told(0, 0), 'C');
        Check.due("3 no name at 3", x.encoded(3), -1);
        Check.due("3 a name at 4", x.encoded(4), 0);
        Check.due("3 no subroutine", x.run(0), -4);
        Check.sign(x, "A");
        Check.due("3 no name at 3, though a sign has it again", x.encoded(3), -1);
    }

    private static void written() {
        TypeOne x = new TypeOne();
        int a = Check.sign(x, "A", 9, 14);
        int b = Check.sign(x, "Bee");
        x.encode(255, a);
        x.encode(10, b);
        x.encode(100, b);
        x.encode(99, a);
        x.encode(0, a);
        x.encode(5, a);
        x.encode(5, -1);
        Check.subroutine(x, 63, Check.times(255, 11));
        Check.subroutine(x, 0, 14);
        Check.subroutine(x, 7, 11);
        String clear = "%!\n/Encoding dup 0 /A put dup 10 /Bee put dup 99 /A put dup 100 /Bee put dup 255 /A put def eexec ";
        String text = "/lenIV 4 /Subrs dup 0 " + Check.program(4, 14) + "dup 7 " + Check.program(4, 11) + "dup 63 "
            + Check.program(4, Check.times(255, 11)) + "/CharStrings /A " + Check.program(4, 9, 14) + "/Bee "
            + Check.program(4) + "end ";
        byte[] want = Check.file(clear, text);
        byte[] got = Check.written(x);
        Check.due("16 how many", got.length, want.length);
        for (int i = 0; i < want.length && i < got.length; i++) {
            Check.due("17 octet " + i, got[i], want[i]);
        }
        Check.thrown("17 behind the last", BEYOND, () -> x.octet(got.length));
        Check.thrown("17 -1", BEYOND, () -> x.octet(-1));
        x.code(a, (byte) 1);
        Check.due("17 as it was written", x.octet(want.length - 1), want[want.length - 1]);
        x.cut(a);
        Check.due("16 again", x.seal(), want.length - "/A 6 RD ".length() - 7);
        Check.thrown("17 of the last one", BEYOND, () -> x.octet(want.length - 1));
    }

    private static void take() {
        TypeOne x = new TypeOne();
        x.add((byte) 1);
        Check.due("18 nothing was written", x.take(), 0);
        Check.due("18 no bytes are left", x.read(), -1);
        x.encode(9, Check.sign(x, "A", Check.n(5), 10, 14));
        Check.subroutine(x, 5, 9, 9, 11);
        int size = x.seal();
        x.add((byte) 65);
        Check.due("18 take", x.take(), size);
        Check.due("3 of what was written", x.read(), 1);
        Check.due("3 runs as before", x.run(0), 2);
        Check.due("3 is encoded as before", x.encoded(9), 0);
        Check.due("18 take again", x.take(), size);
        x.add((byte) 65);
        Check.due("2 bytes behind the end are passed", x.read(), 1);
        for (int i = 0; i < 9; i++) {
            Check.subroutine(x, 10 + i, Check.times(255, 200));
        }
        Check.due("16 more than 2000", x.seal() > 2000 ? 1 : 0, 1);
        Check.due("18 the first 2000", x.take(), 2000);
        Check.thrown("2 no more than 2000", UnsupportedOperationException.class, () -> x.add((byte) 1));
        Check.due("3 the rest is missing", x.read(), place(2000));
        Check.thrown("17 the 2001st is there", null, () -> x.octet(2000));
    }
}
