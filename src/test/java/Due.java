import java.nio.charset.StandardCharsets;

/** What the tests have in common: the count of wrong answers, and ways to feed and to read a row. */
final class Due {
    private static int calls = 0;
    private static int wrong = 0;
    private static String sentence = "";

    private Due() {
    }

    /** From here on, wrong answers are told with the words of the document that they break. */
    static void sentence(String where, String words) {
        sentence = "[" + where + ": \"" + words + "\"] ";
    }

    static void due(String what, long got, long want) {
        calls++;
        if (got != want) {
            wrong++;
            System.out.println(sentence + what + " answered " + got + ", due is " + want);
        }
    }

    static void due(String what, String got, String want) {
        calls++;
        if (!got.equals(want)) {
            wrong++;
            int same = 0;
            while (same < got.length() && same < want.length() && got.charAt(same) == want.charAt(same)) {
                same++;
            }
            System.out.println(sentence + what + " answered, from character " + same + " on, " + someFrom(got, same)
                + ", due is " + someFrom(want, same));
        }
    }

    private static String someFrom(String text, int from) {
        return text.substring(from, Math.min(text.length(), from + 80));
    }

    /** Ends the test: with exit code 1 if an answer was wrong. */
    static void end() {
        System.out.println(wrong == 0 ? calls + " answers are as due" : wrong + " answers are not as due");
        if (wrong != 0) {
            System.exit(1);
        }
    }

    /** Feeds the name's characters, 0 to 255, as bytes. */
    static void feed(ListingRow row, String name) {
        byte[] bytes = name.getBytes(StandardCharsets.ISO_8859_1);
        for (int i = 0; i < bytes.length; i += 8) {
            int n = Math.min(8, bytes.length - i);
            long fed = 0;
            for (int k = n - 1; k >= 0; k--) {
                fed = fed << 8 | bytes[i + k] & 255;
            }
            row.feed(fed, n);
        }
    }

    static int add(ListingRow row, String name, int number, int start, int place, int kind) {
        feed(row, name);
        return row.add(number, start, place, kind);
    }

    static int drop(ListingRow row, String name) {
        feed(row, name);
        return row.drop();
    }

    static int find(ListingRow row, String name) {
        feed(row, name);
        return row.find();
    }

    static int set(ListingRow row, int i, int place, int start, String name) {
        feed(row, name);
        return row.set(i, place, start);
    }

    /** All bytes of the listing, in hexadecimal digits. */
    static String hex(ListingRow row) {
        StringBuilder text = new StringBuilder();
        for (int i = 0; i < row.size(0); i++) {
            text.append(String.format("%02x", row.bytes(i / 8) >> 8 * (i % 8) & 255));
        }
        return text.toString();
    }

    static String repeat(char c, int n) {
        return String.valueOf(c).repeat(n);
    }
}
