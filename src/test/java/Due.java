import java.nio.charset.StandardCharsets;

/** What the project's tests share: answers that are due, and texts put on the tape. */
final class Due {
    private static final int PRINTED_AT_MOST = 40;
    private static int asked = 0;
    private static int wrong = 0;

    private Due() {
    }

    static void due(String call, long got, long want) {
        asked++;
        if (got != want) {
            wrong++;
            if (wrong <= PRINTED_AT_MOST) {
                System.out.println(call + " answered " + got + ", due is " + want);
            }
        }
    }

    static void finish() {
        System.out.println(asked + " answers, " + wrong + " not as due");
        System.exit(wrong == 0 && asked > 0 ? 0 : 1);
    }

    /** Puts the text alone on the tape; it must be at most 600 bytes. */
    static void put(BranchPlay x, String text) {
        x.end(0);
        byte[] bytes = text.getBytes(StandardCharsets.ISO_8859_1);
        int room = (bytes.length + 19) / 20 * 20;
        byte[] padded = java.util.Arrays.copyOf(bytes, room);
        for (int at = 0; at < room; at += 20) {
            x.feed(four(padded, at), four(padded, at + 4), four(padded, at + 8),
                four(padded, at + 12), four(padded, at + 16));
        }
        due("end(" + bytes.length + ")", x.end(bytes.length), bytes.length);
    }

    static int way(BranchPlay x, int w, String text) {
        put(x, text);
        return x.way(w);
    }

    private static int four(byte[] bytes, int at) {
        return (bytes[at] & 255) << 24 | (bytes[at + 1] & 255) << 16
            | (bytes[at + 2] & 255) << 8 | bytes[at + 3] & 255;
    }
}
