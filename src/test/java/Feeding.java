import java.nio.charset.StandardCharsets;

/** Brings texts onto a TAPE. */
final class Feeding {
    private Feeding() {
    }

    /** The numbers that feed() takes for one piece of twenty bytes. */
    static int[] piece(byte[] text, int start) {
        int[] five = new int[5];
        for (int i = 0; i < 20; i++) {
            int b = start + i < text.length ? text[start + i] & 255 : 0;
            five[i / 4] = five[i / 4] << 8 | b;
        }
        return five;
    }

    static void feed(PoolTowels x, byte[] text) {
        for (int start = 0; start < text.length; start += 20) {
            int[] five = piece(text, start);
            x.feed(five[0], five[1], five[2], five[3], five[4]);
        }
    }

    static int pool(PoolTowels x, String text) {
        feed(x, text.getBytes(StandardCharsets.ISO_8859_1));
        return x.pool(text.length());
    }

    static int habit(PoolTowels x, int guest, String text) {
        feed(x, text.getBytes(StandardCharsets.ISO_8859_1));
        return x.habit(guest, text.length());
    }

    static int book(PoolTowels x, String text) {
        feed(x, text.getBytes(StandardCharsets.ISO_8859_1));
        return x.book(text.length());
    }
}
