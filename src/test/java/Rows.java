/** Rows of bytes told as text in hexadecimal numbers, such as "ED A0 80". */
final class Rows {
    private Rows() { }

    static int[] numbers(String text) {
        String[] words = text.trim().isEmpty() ? new String[0] : text.trim().split(" +");
        int[] numbers = new int[words.length];
        for (int k = 0; k < words.length; k++) {
            numbers[k] = Integer.parseUnsignedInt(words[k], 16);
        }
        return numbers;
    }

    /** Puts a row in pieces of some bytes each. */
    static void put(Counted x, int stream, String row, int piece) {
        int[] bytes = numbers(row);
        for (int from = 0; from < bytes.length; from += piece) {
            int n = Math.min(piece, bytes.length - from);
            long w = 0;
            for (int k = 0; k < n; k++) {
                w = w << 8 | bytes[from + k];
            }
            x.put(stream, w, n);
        }
    }

    static void put(Counted x, int stream, String row) {
        put(x, stream, row, 8);
    }

    /** Puts the same byte again and again. */
    static void fill(Counted x, int stream, int value, int count) {
        long w = 0x0101010101010101L * value;
        for (int came = 0; came < count; came += 8) {
            x.put(stream, w, Math.min(8, count - came));
        }
    }

    /** Opens a stream in form 3 that has just these signs. */
    static void signs(Counted x, int stream, String signs) {
        x.open(stream, 3, 2);
        for (int sign : numbers(signs)) {
            x.put(stream, sign, 4);
        }
    }

    /** The bytes of THE OUT as text, up to some more than are due. */
    static String out(Counted x, int most) {
        StringBuilder text = new StringBuilder();
        for (int i = 0; i < most; i++) {
            int value = x.out(i);
            if (value < 0) {
                break;
            }
            text.append(text.length() > 0 ? " " : "").append(String.format("%02X", value));
        }
        return text.toString();
    }

    /** A stream's signs as text. */
    static String signs(Counted x, int stream) {
        StringBuilder text = new StringBuilder();
        int count = x.about(stream, 2);
        for (int i = 0; i < count; i++) {
            text.append(text.length() > 0 ? " " : "").append(String.format("%X", x.sign(stream, i)));
        }
        return text.toString();
    }
}
