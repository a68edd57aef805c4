/**
 * The limits that no 512 calls reach. The document leaves free what an object answers after its
 * 512th call; these tests hold the class to its words all the same.
 */
public final class BeyondCallsTest {
    private static final int BAD = ListingRow.BAD;
    private static final int NONE = ListingRow.NONE;
    private static final int THERE = ListingRow.THERE;
    private static final int FULL = ListingRow.FULL;

    public static void main(String[] args) {
        promise3_Full600Entries();
        promise3_FullThe1501stNumber();
        making_headerHas256Entries();
        right_headerTells256Entries();
        making_listingHas65536Bytes();
        promise6_FullChangesNothing();
        right_indexPlacesRise();
        promise15_fromTheLatestOfSeveralIndexes();
        Due.end();
    }

    private static void due(String what, long got, long want) {
        Due.due(what, got, want);
    }

    private static void promise3_Full600Entries() {
        Due.sentence("Promise 3: add", "FULL (600 entries");
        ListingRow x = new ListingRow();
        for (int i = 0; i < 600; i++) {
            due("add", Due.add(x, "n" + i, 1 + i % 7, 0, 0, 1), i + 1);
        }
        due("add of one that is there", Due.add(x, "n5", 1, 0, 0, 1), THERE);
        due("add of a bad number", Due.add(x, "o", 0, 0, 0, 1), BAD);
        due("add of the 601st", Due.add(x, "o", 1, 0, 0, 1), FULL);
        due("drop without a tape, which FULL used up", x.drop(), BAD);
        due("drop of the 601st", Due.drop(x, "o"), NONE);
        due("drop", Due.drop(x, "n7"), 599);
        due("add of the 600th", Due.add(x, "o", 1, 0, 0, 1), 600);
    }

    private static void promise3_FullThe1501stNumber() {
        Due.sentence("Promise 3: add", "or its number would be the 1501st that is known");
        ListingRow x = new ListingRow();
        for (int i = 0; i < 1500; i++) {
            due("add", Due.add(x, "n", 100000 - i, 0, 0, 1), 1);
            x.clear();
        }
        due("the 1501st number", Due.add(x, "n", 1, 0, 0, 1), FULL);
        due("the one behind the known ones", Due.add(x, "n", 98500, 0, 0, 1), FULL);
        due("a number that is known", Due.add(x, "n", 98501, 0, 0, 1), 1);
        due("another one", Due.add(x, "m", 100000, 0, 0, 1), 2);
        x.make(0);
        due("check", x.check(), 2);
        due("add of one that is known, and full", Due.add(x, "o", 98500, 0, 0, 1), FULL);
        due("check after FULL", x.check(), 2);
    }

    private static ListingRow of256() {
        ListingRow x = new ListingRow();
        for (int i = 0; i < 256; i++) {
            Due.add(x, "n" + (1000 + i), 1 + i, 0, 0, 1);
        }
        return x;
    }

    private static void making_headerHas256Entries() {
        Due.sentence("Terms, MAKING", "or the header has 256 entries");
        ListingRow x = of256();
        due("make of 256", x.make(0), 12 + 256 * 13);
        due("headers", x.size(1), 1);
        due("the header's count", x.bytes(0), 255);
        due("check", x.check(), 256);
        Due.add(x, "o", 257, 0, 0, 1);
        due("make of 257", x.make(0), 12 + 256 * 13 + 21);
        due("headers", x.size(1), 2);
        due("the first header's count", x.bytes(0), 255);
        due("check", x.check(), 257);
    }

    private static void right_headerTells256Entries() {
        Due.sentence("Terms", "u4 the entries that follow, less 1 (0 .. 255)");
        for (int more : new int[] {1, 2, 256}) {
            ListingRow x = of256();
            for (int i = 0; i < more; i++) {
                Due.add(x, "o" + (1000 + i), 257 + i, 0, 0, 1);
            }
            x.make(0);
            due("check of two headers", x.check(), 256 + more);
            moveUnderFirstHeader(x, more);
            due("check of a header with " + (256 + more) + " entries", x.check(), NONE);
            x.patch(0, 255);
            x.patch(1, 0);
            x.cut(12 + 256 * 13);
            due("check of a header with 256 entries", x.check(), 256);
        }
    }

    /** The entries behind the second header move before it, and it goes: the first one tells too many. */
    private static void moveUnderFirstHeader(ListingRow x, int more) {
        int second = 12 + 256 * 13;
        String entries = Due.hex(x).substring(2 * (second + 12));
        for (int i = 0; i < more * 13; i++) {
            x.patch(second + i, Integer.parseInt(entries.substring(2 * i, 2 * i + 2), 16));
        }
        for (int i = 0; i < more; i++) {
            // They tell their numbers from the second header's on, which was 256 more.
            x.patch(second + 13 * i + 3, i / 256 + 1);
        }
        x.patch(0, 255 + more);
        x.patch(1, (255 + more) / 256);
        x.cut(second + more * 13);
    }

    /** Entries of all the bytes that a listing may have, the last one's name being of the given length. */
    private static ListingRow ofMostBytes(int lastName) {
        ListingRow x = new ListingRow();
        Due.add(x, "a", 1, 0, 0, 1);
        for (int i = 0; i < 235; i++) {
            Due.add(x, Due.repeat('b', 253) + (100 + i), 1, (i + 1) % 2, 0, 1);
        }
        Due.add(x, "c" + Due.repeat('x', 255), 1, 0, 0, 1);
        Due.add(x, "d" + Due.repeat('x', 255), 1, 1, 0, 1);
        Due.add(x, "e" + Due.repeat('x', lastName - 1), 1, 0, 0, 1);
        return x;
    }

    private static void making_listingHas65536Bytes() {
        Due.sentence("Terms, MAKING", "A listing has 65536 bytes at most");
        // Each entry has a header of its own: 21 + 237 * 276 + 20 + 83 bytes.
        ListingRow x = ofMostBytes(83);
        due("make of the most bytes", x.make(5), 65536);
        due("headers", x.size(1), 239);
        due("indexes", x.size(2), 7);
        due("the last byte", x.bytes(8191) >>> 56, 'x');
        due("no byte behind", x.bytes(8192), 0);
        due("patch of the last", x.patch(65535, 'y'), 'x');
        due("patch of none", x.patch(65536, 'y'), NONE);
        ListingRow y = ofMostBytes(84);
        due("make of one more", y.make(5), FULL);
    }

    private static void promise6_FullChangesNothing() {
        Due.sentence("Promise 6: make", "FULL, changing nothing");
        ListingRow x = ofMostBytes(83);
        x.make(5);
        String before = Due.hex(x);
        int place = x.index(6, 0);
        Due.drop(x, "e" + Due.repeat('x', 82));
        Due.add(x, "e" + Due.repeat('x', 83), 1, 0, 0, 1);
        due("a tape", x.feed(97, 1), 1);
        due("make of one more", x.make(6), FULL);
        due("the tape after FULL", x.feed(98, 1), 2);
        due("drop of the tape", x.drop(), NONE);
        due("bytes after FULL", x.size(0), 65536);
        due("headers after FULL", x.size(1), 239);
        due("indexes after FULL", x.size(2), 7);
        due("begin after FULL", x.size(3), 5);
        due("the last index after FULL", x.index(6, 0), place);
        due("make of a bad begin", x.make(40001), BAD);
        Due.due("the bytes after FULL", Due.hex(x), before);
        due("entries after FULL", Due.drop(x, "a"), 238);
        due("make after FULL", x.make(7), 65537 - 21);
    }

    /** Three pieces of the row, with an index to the second and to the third one. */
    private static ListingRow manyPieces() {
        ListingRow x = new ListingRow();
        for (int i = 0; i < 90; i++) {
            Due.add(x, Due.repeat('m', 253) + (100 + i), 1 + i, 0, 0, 1);
        }
        x.make(0);
        return x;
    }

    private static void right_indexPlacesRise() {
        Due.sentence("Terms, RIGHT", "and if the indexes are: their places rise");
        ListingRow x = manyPieces();
        due("indexes", x.size(2), 2);
        due("check", x.check(), 90);
        int[] place = {x.index(0, 0), x.index(1, 0)};
        // Behind a header at the first place of a piece, or soon behind it, 31 entries begin in the piece.
        due("first place", place[0], 12 + 31 * 264);
        due("second place", place[1], 2 * (12 + 31 * 264));
        due("first start", x.index(0, 1), 8194);
        due("second start", x.index(1, 1), 2 * 8194);
        String[] name = {Due.repeat('m', 253) + 131, Due.repeat('m', 253) + 162};
        Due.set(x, 1, place[0], 8194, name[0]);
        due("check with an index twice", x.check(), NONE);
        Due.set(x, 0, place[1], 2 * 8194, name[1]);
        due("check with indexes that fall", x.check(), NONE);
        Due.set(x, 1, place[1], 2 * 8194, name[1]);
        due("check with the latter twice", x.check(), NONE);
        Due.set(x, 0, place[0], 8194, name[0]);
        due("check as it was", x.check(), 90);
    }

    private static void promise15_fromTheLatestOfSeveralIndexes() {
        Due.sentence("Promise 15: find", "looked for from the latest index on whose name is not behind it");
        ListingRow x = manyPieces();
        String begin = Due.repeat('m', 253);
        dueFind(x, begin + 130, 31, 31);
        dueFind(x, begin + 131, 32, 1);
        dueFind(x, begin + 161, 62, 31);
        dueFind(x, begin + 161 + "x", NONE, 32);
        dueFind(x, begin + 162, 63, 1);
        dueFind(x, "n", NONE, 28);
    }

    private static void dueFind(ListingRow x, String name, int want, int passed) {
        String what = "find of .." + name.substring(Math.max(0, name.length() - 9));
        due(what, Due.find(x, name), want);
        due("passed by " + what, x.passed(), passed);
    }
}
