/** README.md's examples, with the answers that stand behind them there: both must be kept alike. */
public final class ReadmeTest {
    public static void main(String[] args) {
        byte[] file = madeSignBySign();
        readFromBytes(file, 1);
        file[0] = ' ';
        readFromBytes(file, 1);
        readFromBytes(new byte[] {'/', 'E', 'n', 'c', 'o', 'd', 'i', 'n', 'g', ' ', 'd', 'u', 'p', ' ', 'x'}, -15);
        Check.end();
    }

    private static byte[] madeSignBySign() {
        TypeOne x = new TypeOne();
        int a = x.sign('A', 1);
        Check.due("sign", a, 0);
        for (int b : new int[] {139, 239, 13, 149, 6, 9, 14}) {
            x.code(a, (byte) b);
        }
        x.encode(65, a);
        Check.due("run", x.run(a), 2);
        Check.due("kind", x.piece(0, 0), 1);
        Check.due("end", x.piece(0, 1), 10);
        Check.due("width", x.width(a), 100);
        Check.due("first byte of the program", x.told(a, 100), 139);
        Check.due("seal", x.seal(), 95);
        byte[] file = Check.written(x);
        Check.due("take", x.take(), 95);
        Check.due("read", x.read(), 1);
        Check.due("the sign of code 65", x.encoded(65), 0);
        return file;
    }

    private static void readFromBytes(byte[] file, int due) {
        TypeOne y = new TypeOne();
        for (byte b : file) {
            y.add(b);
        }
        Check.due("read from bytes", y.read(), due);
    }
}
