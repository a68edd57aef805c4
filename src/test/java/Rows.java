/** Rows that several tests begin with. */
final class Rows {
    /** A header of one entry, with start 5 and number 10. */
    static final String HEADER = "00000000" + "05000000" + "0a000000";
    /** The same one of two entries. */
    static final String HEADER_OF_TWO = "01000000" + "05000000" + "0a000000";
    /** An entry with place 7, kind 3 and the header's number, up to its name of one byte. */
    static final String ENTRY = "0700" + "0000" + "0300" + "0000";

    private Rows() {
    }

    /** A row that knows number 10 (start 5, place 7, kind 3), with the given bytes as its listing. */
    static ListingRow listed(String hex) {
        return listed(hex, 10, 5, 7, 3);
    }

    /** A row that knows one number, with the given bytes, 200 at most, as its listing. */
    static ListingRow listed(String hex, int number, int start, int place, int kind) {
        ListingRow x = new ListingRow();
        Due.add(x, Due.repeat('n', 180), number, start, place, kind);
        x.make(0);
        for (int i = 0; i < hex.length() / 2; i++) {
            x.patch(i, Integer.parseInt(hex.substring(2 * i, 2 * i + 2), 16));
        }
        x.cut(hex.length() / 2);
        return x;
    }

    /** A row with the given entries under one start, of numbers from 1 on. */
    static ListingRow ofNames(String... names) {
        ListingRow x = new ListingRow();
        for (int i = 0; i < names.length; i++) {
            Due.add(x, names[i], 1 + i, 0, 0, 1);
        }
        return x;
    }

    /** Headers at 0, 21 and 42, with names a, b and c; the last two begin in another piece, the second is indexed. */
    static ListingRow threeHeaders() {
        ListingRow x = new ListingRow();
        Due.add(x, "a", 1, 0, 0, 1);
        Due.add(x, "b", 2, 1, 0, 1);
        Due.add(x, "c", 3, 2, 0, 1);
        Due.due("make", x.make(8192 - 21), 63);
        return x;
    }
}
