/** Puts texts onto a tape. */
final class Texts {
    private Texts() {
    }

    /** Feeds the text onto an empty tape and cuts what fills the last feed up. */
    static void write(AmphoraYard x, String text) {
        byte[] bytes = new byte[(text.length() + 19) / 20 * 20];
        for (int i = 0; i < text.length(); i++) {
            bytes[i] = (byte) text.charAt(i);
        }
        for (int at = 0; at < bytes.length; at += 20) {
            x.feed(four(bytes, at), four(bytes, at + 4), four(bytes, at + 8),
                    four(bytes, at + 12), four(bytes, at + 16));
        }
        x.end(text.length());
    }

    private static int four(byte[] bytes, int at) {
        int number = 0;
        for (int i = at; i < at + 4; i++) {
            number = number << 8 | bytes[i] & 255;
        }
        return number;
    }
}
