import java.nio.charset.StandardCharsets;

/** Puts texts into the input buffer, which takes 20 bytes at a time. */
final class Sheets {
    private Sheets() {
    }

    static int[] words(String text) {
        byte[] bytes = text.getBytes(StandardCharsets.ISO_8859_1);
        int[] words = new int[(bytes.length + 19) / 20 * 5];
        for (int i = 0; i < 4 * words.length; i++) {
            int b = i < bytes.length ? bytes[i] & 255 : ' ';
            words[i / 4] = words[i / 4] << 8 | b;
        }
        return words;
    }

    static void append(LotSheet sheet, String text) {
        int[] w = words(text);
        for (int i = 0; i < w.length; i += 5) {
            if (sheet.append(w[i], w[i + 1], w[i + 2], w[i + 3], w[i + 4]) < 0) {
                throw new IllegalStateException("the text is too long: " + text);
            }
        }
    }

    static int load(LotSheet sheet, String text) {
        append(sheet, text);
        return sheet.load(text.length());
    }

    static LotSheet of(String text) {
        LotSheet sheet = new LotSheet();
        int lots = load(sheet, text);
        if (lots < 0) {
            throw new IllegalStateException("error " + lots + " at " + sheet.errorOffset() + " of " + text);
        }
        return sheet;
    }
}
