import java.io.ByteArrayOutputStream;
import java.nio.charset.StandardCharsets;

/** What the tests share: comparing answers, and making programs and files. */
final class Check {
    private static int wrong = 0;

    private Check() {
    }

    static void due(String what, long got, long want) {
        if (got != want) {
            wrong++;
            System.out.println(what + " answered " + got + ", due is " + want);
        }
    }

    static void row(String what, int[] got, int... want) {
        if (!java.util.Arrays.equals(got, want)) {
            wrong++;
            System.out.println(what + " answered " + java.util.Arrays.toString(got)
                + ", due is " + java.util.Arrays.toString(want));
        }
    }

    /** The class throws without a text, the machine with one: so it is seen which of them threw. */
    static void thrown(String what, Class<?> want, Runnable call) {
        Class<?> got = null;
        try {
            call.run();
        } catch (RuntimeException e) {
            got = e.getClass();
            due(what + " thrown by the class itself", e.getMessage() == null ? 1 : 0, 1);
        }
        if (got != want) {
            wrong++;
            System.out.println(what + " threw " + got + ", due is " + want);
        }
    }

    static void end() {
        System.out.println(wrong == 0 ? "all answers are as due" : wrong + " answers are not as due");
        if (wrong != 0) {
            System.exit(1);
        }
    }

    /** A name of up to eight letters as sign wants it. */
    static long letters(String name) {
        long w = 0;
        for (int i = name.length() - 1; i >= 0; i--) {
            w = w << 8 | name.charAt(i);
        }
        return w;
    }

    static int sign(TypeOne x, String name, int... program) {
        int s = x.sign(letters(name), name.length());
        code(x, s, program);
        return s;
    }

    static void code(TypeOne x, int sign, int... program) {
        for (int b : program) {
            x.code(sign, (byte) b);
        }
    }

    static void subroutine(TypeOne x, int n, int... program) {
        for (int b : program) {
            x.subroutine(n, (byte) b);
        }
    }

    /** What a new sign with this program answers to run. */
    static int runOf(TypeOne x, int... program) {
        return x.run(sign(x, "probe", program));
    }

    static int runOf(int... program) {
        return runOf(new TypeOne(), program);
    }

    static int[] piece(TypeOne x, int i) {
        int[] cells = new int[7];
        for (int k = 0; k < 7; k++) {
            cells[k] = x.piece(i, k);
        }
        return cells;
    }

    /** The one-byte number for -107 .. 107. */
    static int n(int value) {
        if (value < -107 || value > 107) {
            throw new IllegalArgumentException("no number of one byte");
        }
        return value + 139;
    }

    static int[] join(int[]... rows) {
        int size = 0;
        for (int[] r : rows) {
            size += r.length;
        }
        int[] all = new int[size];
        int at = 0;
        for (int[] r : rows) {
            System.arraycopy(r, 0, all, at, r.length);
            at += r.length;
        }
        return all;
    }

    static int[] times(int count, int... row) {
        int[] all = new int[0];
        for (int i = 0; i < count; i++) {
            all = join(all, row);
        }
        return all;
    }

    static int[] bytes(int... row) {
        return row;
    }

    /** Sealed by the document's words: the c is sought for which unsealing gives the plain byte. */
    static byte[] sealed(byte[] plain, int leads, int key) {
        byte[] out = new byte[plain.length + leads];
        int r = key;
        for (int i = 0; i < out.length; i++) {
            int p = i < leads ? 0 : plain[i - leads] & 255;
            int c = 0;
            while (((c ^ (r >> 8)) & 255) != p) {
                c++;
            }
            out[i] = (byte) c;
            r = (int) (((long) (c + r) * 52845 + 22719) % 65536);
        }
        return out;
    }

    static byte[] unsealed(byte[] row, int leads, int key) {
        byte[] out = new byte[Math.max(0, row.length - leads)];
        int r = key;
        for (int i = 0; i < row.length; i++) {
            int c = row[i] & 255;
            if (i >= leads) {
                out[i - leads] = (byte) (c ^ (r >> 8));
            }
            r = (int) (((long) (c + r) * 52845 + 22719) % 65536);
        }
        return out;
    }

    static byte[] latin(String text) {
        return text.getBytes(StandardCharsets.ISO_8859_1);
    }

    static String latin(byte[] row) {
        return new String(row, StandardCharsets.ISO_8859_1);
    }

    /** "n RD .. " with the program's bytes sealed, as text. */
    static String program(int leads, int... plain) {
        byte[] row = new byte[plain.length];
        for (int i = 0; i < plain.length; i++) {
            row[i] = (byte) plain[i];
        }
        return (plain.length + leads) + " RD " + latin(sealed(row, leads, 4330)) + " ";
    }

    static byte[] file(String clear, String text) {
        ByteArrayOutputStream out = new ByteArrayOutputStream();
        out.writeBytes(latin(clear));
        out.writeBytes(sealed(latin(text), 4, 55665));
        return out.toByteArray();
    }

    static int read(TypeOne x, byte[] file) {
        for (byte b : file) {
            x.add(b);
        }
        return x.read();
    }

    static int readOf(String clear, String text) {
        return read(new TypeOne(), file(clear, text));
    }

    static byte[] written(TypeOne x) {
        byte[] out = new byte[x.seal()];
        for (int i = 0; i < out.length; i++) {
            out[i] = x.octet(i);
        }
        return out;
    }
}
