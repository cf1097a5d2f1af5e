import java.nio.charset.StandardCharsets;

/** What the tests share: comparing, and texts in place of bytes. */
final class Check {
    private int wrong;
    private int done;

    void due(String what, long got, long want) {
        done++;
        if (got != want) {
            wrong++;
            System.out.println(what + " answered " + got + ", due is " + want);
        }
    }

    void due(String what, String got, String want) {
        done++;
        if (!got.equals(want)) {
            wrong++;
            System.out.println(what + " showed \"" + got + "\", due is \"" + want + "\"");
        }
    }

    void end() {
        System.out.println(done + " answers, " + wrong + " not as due");
        if (wrong != 0) {
            System.exit(1);
        }
    }

    /** Feeds a text of at most 40 bytes. */
    static void feed(LeadSheets sheets, String text) {
        byte[] bytes = text.getBytes(StandardCharsets.ISO_8859_1);
        for (int start = 0; start < bytes.length; start += 8) {
            int n = Math.min(8, bytes.length - start);
            long number = 0;
            for (int i = n - 1; i >= 0; i--) {
                number = number << 8 | bytes[start + i] & 255;
            }
            sheets.feed(n, number);
        }
    }

    static int chord(LeadSheets sheets, String text) {
        feed(sheets, text);
        return sheets.chord();
    }

    /** What is shown, read until the first byte that is not there. */
    static String shown(LeadSheets sheets) {
        StringBuilder text = new StringBuilder();
        for (int i = 0; i < 100 && sheets.shown(i) != LeadSheets.BAD; i++) {
            text.append((char) sheets.shown(i));
        }
        return text.toString();
    }

    static String written(LeadSheets sheets, int chord) {
        int size = sheets.write(chord);
        String text = shown(sheets);
        return size == text.length() ? text : "size " + size + " of " + text;
    }

    static String figure(LeadSheets sheets, int chord, int key) {
        int size = sheets.figure(chord, key);
        String text = shown(sheets);
        return size == text.length() ? text : "size " + size + " of " + text;
    }

    /** All names that were found latest, parted by blanks. */
    static String names(LeadSheets sheets) {
        StringBuilder all = new StringBuilder();
        for (int i = 0; i < sheets.count(1); i++) {
            int size = sheets.name(i);
            String text = shown(sheets);
            all.append(i == 0 ? "" : " ").append(text);
            if (size != text.length()) {
                all.append("!size").append(size);
            }
        }
        return all.toString();
    }

    /** The keys of the latest voicing, parted by blanks. */
    static String keys(LeadSheets sheets) {
        StringBuilder all = new StringBuilder();
        for (int i = 0; i < 100 && sheets.key(i) != LeadSheets.BAD; i++) {
            all.append(i == 0 ? "" : " ").append(sheets.key(i));
        }
        return all.toString();
    }
}
