/** Each promise of the document by itself. */
public final class PromisesTest {
    private static final int BAD = ListingRow.BAD;
    private static final int NONE = ListingRow.NONE;
    private static final int THERE = ListingRow.THERE;
    private static final int FULL = ListingRow.FULL;
    private static final int LEAST = Integer.MIN_VALUE;
    private static final int MOST = Integer.MAX_VALUE;

    public static void main(String[] args) {
        promise1NewObject();
        promise2Feed();
        promise2FeedFull();
        promise3AddNames();
        promise3AddNumbers();
        promise3AddUsesTheTapeUp();
        promise3AddMakesKnown();
        promise4Drop();
        promise5Clear();
        promise6MakeOrder();
        promise6MakeHeaders();
        promise6MakePieces();
        promise6MakeBegin();
        promise7Size();
        promise8Bytes();
        promise9Index();
        promise10Patch();
        promise11Cut();
        promise12Set();
        promise13CheckShape();
        promise13CheckNames();
        promise13CheckLongName();
        promise13CheckKnown();
        promise13CheckIndexes();
        promise14Entry();
        promise15FindAnd16Passed();
        promise15FindFromIndexes();
        Due.end();
    }

    private static void due(String what, long got, long want) {
        Due.due(what, got, want);
    }

    private static void promise1NewObject() {
        ListingRow x = new ListingRow();
        for (int what = 0; what < 4; what++) {
            due("1 size(" + what + ")", x.size(what), 0);
        }
        due("1 bytes", x.bytes(0), 0);
        due("1 index", x.index(0, 0), NONE);
        due("1 check", x.check(), 0);
        due("1 entry", x.entry(0, 0), NONE);
        due("1 passed", x.passed(), 0);
        due("1 patch", x.patch(0, 1), NONE);
        due("1 cut", x.cut(0), 0);
        due("1 find", x.find(), NONE);
        due("1 passed after find", x.passed(), 0);
        due("1 clear", x.clear(), 0);
        due("1 make", x.make(0), 0);
        due("1 an empty tape", x.feed(0, 1), 1);
        ListingRow other = new ListingRow();
        Due.add(other, "a", 1, 0, 0, 1);
        due("1 objects share nothing", new ListingRow().clear(), 0);
    }

    private static void promise2Feed() {
        ListingRow x = new ListingRow();
        for (int n : new int[] {LEAST, -1, 0, 9, MOST}) {
            due("2 feed of " + n, x.feed(97, n), BAD);
        }
        due("2 feed of 8", x.feed(0x6867666564636261L, 8), 8);
        due("2 feed of the lowest alone", x.feed(0x7a7a7a7a7a7a7a69L, 1), 9);
        due("2 feed of 2", x.feed(0x6b6aL, 2), 11);
        due("2 feed of 8 without a sign", x.feed(-1L, 8), 19);
        x.add(1, 0, 0, 1);
        x.make(0);
        Due.due("2 the name", Due.hex(x).substring(40), "6162636465666768" + "696a6b" + "ffffffffffffffff");
    }

    private static void promise2FeedFull() {
        ListingRow x = new ListingRow();
        for (int n = 8; n <= 296; n += 8) {
            due("2 feed up to " + n, x.feed(97, 8), n);
        }
        due("2 feed of 8 over 300", x.feed(97, 8), FULL);
        due("2 BAD comes before FULL", x.feed(97, 9), BAD);
        due("2 feed of 5 over 300", x.feed(97, 5), FULL);
        due("2 feed up to 300", x.feed(97, 4), 300);
        due("2 feed of 1 over 300", x.feed(97, 1), FULL);
        due("2 find uses it up", x.find(), NONE);
        due("2 feed anew", x.feed(97, 1), 1);
    }

    private static void promise3AddNames() {
        ListingRow x = new ListingRow();
        String[] bad = {"", ".", "..", "\0", "/", "a\0", "a/b", "/a", "ab\0", Due.repeat('a', 257), Due.repeat('a', 300)};
        for (String name : bad) {
            due("3 add of a bad name of " + name.length(), Due.add(x, name, 1, 0, 0, 1), BAD);
        }
        String[] good = {"...", ".a", "a.", "..a", "a", " ", "\1", "\u00ff", "\u00ae", "\u00af", "\u0080",
            Due.repeat('a', 256), Due.repeat('.', 256), Due.repeat('a', 255)};
        for (int i = 0; i < good.length; i++) {
            due("3 add of a good name of " + good[i].length(), Due.add(x, good[i], 1, 0, 0, 1), i + 1);
        }
        for (String name : good) {
            due("3 add of a name that is there", Due.add(x, name, 1, 0, 0, 1), THERE);
        }
        due("3 all entries", x.clear(), good.length);
    }

    private static void promise3AddNumbers() {
        ListingRow x = new ListingRow();
        int[][] bad = {
            {0, 0, 0, 1}, {-1, 0, 0, 1}, {LEAST, 0, 0, 1}, {100001, 0, 0, 1}, {MOST, 0, 0, 1},
            {1, -1, 0, 1}, {1, LEAST, 0, 1}, {1, 65536, 0, 1}, {1, MOST, 0, 1},
            {1, 0, -1, 1}, {1, 0, LEAST, 1}, {1, 0, 8192, 1}, {1, 0, MOST, 1},
            {1, 0, 0, 0}, {1, 0, 0, -1}, {1, 0, 0, LEAST}, {1, 0, 0, 8}, {1, 0, 0, MOST},
        };
        for (int[] n : bad) {
            due("3 add of a bad number", Due.add(x, "a", n[0], n[1], n[2], n[3]), BAD);
        }
        due("3 add of the least", Due.add(x, "a", 1, 0, 0, 1), 1);
        due("3 add of the most", Due.add(x, "b", 100000, 65535, 8191, 7), 2);
        due("3 BAD comes before THERE", Due.add(x, "a", 0, 0, 0, 1), BAD);
        due("3 THERE", Due.add(x, "a", 2, 0, 0, 1), THERE);
        due("3 make", x.make(0), 42);
        due("3 check", x.check(), 2);
        Due.due("3 the most in a listing", Due.hex(x).substring(42),
            "00000000" + "ffff0000" + "a0860100" + "ff1f" + "0000" + "0700" + "0000" + "62");
    }

    private static void promise3AddUsesTheTapeUp() {
        ListingRow x = new ListingRow();
        due("3 add", Due.add(x, "a", 1, 0, 0, 1), 1);
        due("3 no tape after add", x.add(1, 0, 0, 1), BAD);
        due("3 THERE", Due.add(x, "a", 1, 0, 0, 1), THERE);
        due("3 no tape after THERE", x.add(1, 0, 0, 1), BAD);
        due("3 BAD by a number", Due.add(x, "b", 0, 0, 0, 1), BAD);
        due("3 no tape after a BAD number", x.feed(99, 1), 1);
        due("3 add of the tape alone", x.add(1, 0, 0, 1), 2);
        due("3 BAD by the name", Due.add(x, "..", 1, 0, 0, 1), BAD);
        due("3 no tape after a BAD name", x.feed(100, 1), 1);
    }

    private static void promise3AddMakesKnown() {
        ListingRow x = new ListingRow();
        Due.add(x, "a", 10, 1, 2, 3);
        x.make(0);
        due("3 check", x.check(), 1);
        due("3 THERE", Due.add(x, "a", 10, 1, 2, 4), THERE);
        due("3 THERE makes nothing known", x.check(), 1);
        due("3 BAD", Due.add(x, ".", 10, 1, 2, 4), BAD);
        due("3 BAD makes nothing known", x.check(), 1);
        int[][] others = {{10, 2, 2, 3}, {10, 1, 3, 3}, {10, 1, 2, 4}};
        for (int[] n : others) {
            Due.add(x, "b", n[0], n[1], n[2], n[3]);
            due("3 the latest one makes it known", x.check(), NONE);
            Due.drop(x, "b");
            due("3 known without its entry", x.check(), NONE);
            Due.add(x, "b", 10, 1, 2, 3);
            due("3 known as before", x.check(), 1);
            Due.drop(x, "b");
        }
    }

    private static void promise4Drop() {
        ListingRow x = new ListingRow();
        due("4 drop without a tape", x.drop(), BAD);
        String[] bad = {".", "..", "a/", "\0", Due.repeat('a', 257)};
        for (String name : bad) {
            due("4 drop of no name", Due.drop(x, name), BAD);
        }
        due("4 drop of none", Due.drop(x, "a"), NONE);
        String[] names = {"b", "a", "ab", "d", "c", Due.repeat('z', 256)};
        for (int i = 0; i < names.length; i++) {
            Due.add(x, names[i], i + 1, 0, 0, 1);
        }
        int bytes = x.make(0);
        due("4 drop of a beginning", Due.drop(x, Due.repeat('z', 255)), NONE);
        due("4 drop of more than a name", Due.drop(x, "abc"), NONE);
        for (int i = 0; i < names.length; i++) {
            due("4 drop", Due.drop(x, names[i]), names.length - 1 - i);
            due("4 drop again", Due.drop(x, names[i]), NONE);
            due("4 no tape after NONE", x.drop(), BAD);
        }
        due("4 the listing stays", x.size(0), bytes);
        due("4 numbers stay known", x.check(), names.length);
        due("4 add of a dropped one", Due.add(x, "ab", 1, 0, 0, 1), 1);
        due("4 no tape after drop", Due.drop(x, "ab") + x.drop(), BAD);
    }

    private static void promise5Clear() {
        ListingRow x = new ListingRow();
        Due.add(x, "a", 1, 0, 0, 1);
        Due.add(x, "b", 2, 0, 0, 1);
        x.make(7);
        due("5 a tape before clear", x.feed(97, 1), 1);
        due("5 clear", x.clear(), 2);
        due("5 clear reads no tape", x.feed(98, 1), 2);
        due("5 clear again", x.clear(), 0);
        due("5 the listing stays", x.size(0), 30);
        due("5 numbers stay known", x.check(), 2);
        due("5 drop of none", x.drop(), NONE);
        due("5 make", x.make(0), 0);
        due("5 add", Due.add(x, "a", 1, 0, 0, 1), 1);
    }

    private static void promise6MakeOrder() {
        ListingRow x = new ListingRow();
        Due.add(x, "b", 3, 0, 1, 1);
        Due.add(x, "\u0080", 4, 0, 2, 2);
        Due.add(x, "abc", 2, 0, 3, 3);
        Due.add(x, "a", 5, 0, 4, 4);
        Due.add(x, "\u00ff", 6, 0, 5, 5);
        Due.add(x, "ab", 1, 0, 6, 6);
        due("6 make", x.make(0), 12 + 6 * 8 + 9);
        Due.due("6 in order", Due.hex(x), "05000000" + "00000000" + "05000000"
            + "0400" + "0000" + "0400" + "0000" + "61"
            + "0600" + "fcff" + "0600" + "0100" + "6162"
            + "0300" + "fdff" + "0300" + "0200" + "616263"
            + "0100" + "feff" + "0100" + "0000" + "62"
            + "0200" + "ffff" + "0200" + "0000" + "80"
            + "0500" + "0100" + "0500" + "0000" + "ff");
        due("6 headers", x.size(1), 1);
        due("6 check", x.check(), 6);
        ListingRow y = new ListingRow();
        Due.add(y, Due.repeat('q', 256), 1, 0, 0, 1);
        due("6 make of a long name", y.make(0), 276);
        due("6 its kind, its bytes less 1 and the first of them", y.bytes(2), 0x7171717100ff0001L);
    }

    private static void promise6MakeHeaders() {
        ListingRow x = new ListingRow();
        Due.add(x, "a", 40000, 5, 0, 1);
        Due.add(x, "b", 72767, 5, 0, 1);
        Due.add(x, "c", 7232, 5, 0, 1);
        due("6 make of differences -32768 and 32767", x.make(0), 39);
        due("6 headers", x.size(1), 1);
        due("6 check", x.check(), 3);
        Due.add(x, "b1", 72768, 5, 0, 1);
        due("6 make with a difference 32768", x.make(0), 12 * 3 + 8 * 4 + 5);
        due("6 headers", x.size(1), 3);
        Due.drop(x, "b1");
        Due.add(x, "b1", 7231, 5, 0, 1);
        due("6 make with a difference -32769", x.make(0), 12 * 2 + 8 * 4 + 5);
        due("6 headers", x.size(1), 2);
        due("6 check", x.check(), 4);
        Due.drop(x, "b1");
        Due.add(x, "b1", 40001, 6, 0, 1);
        due("6 make with another start", x.make(0), 12 * 3 + 8 * 4 + 5);
        due("6 headers", x.size(1), 3);
        due("6 indexes", x.size(2), 0);
        Due.due("6 bytes", Due.hex(x), "01000000" + "05000000" + "409c0000"
            + "0000" + "0000" + "0100" + "0000" + "61"
            + "0000" + "ff7f" + "0100" + "0000" + "62"
            + "00000000" + "06000000" + "419c0000"
            + "0000" + "0000" + "0100" + "0100" + "6231"
            + "00000000" + "05000000" + "401c0000"
            + "0000" + "0000" + "0100" + "0000" + "63");
    }

    private static void promise6MakePieces() {
        ListingRow x = new ListingRow();
        Due.add(x, "a", 1, 0, 0, 1);
        Due.add(x, "b", 2, 0, 0, 1);
        Due.add(x, "c", 3, 0, 0, 1);
        // The entries begin at 12, 21 and 30, the listing ends at 39.
        checkPieces(x, 8192 - 31, 1, -1, 0);
        checkPieces(x, 8192 - 30, 2, 30, 8194);
        checkPieces(x, 8192 - 22, 2, 30, 8194);
        checkPieces(x, 8192 - 21, 2, 21, 8194);
        checkPieces(x, 8192 - 13, 2, 21, 8194);
        // The first entry begins in another piece than its header: it stays, the next one does not.
        checkPieces(x, 8192 - 12, 2, 21, 8194);
        checkPieces(x, 8192 - 1, 2, 21, 8194);
        checkPieces(x, 8192, 1, -1, 0);
        checkPieces(x, 3 * 8192 - 21, 2, 21, 3 * 8194);
        checkPieces(x, 3 * 8192 - 30, 2, 30, 3 * 8194);
        Due.due("6 bytes", Due.hex(x), "01000000" + "00000000" + "01000000"
            + "0000" + "0000" + "0100" + "0000" + "61"
            + "0000" + "0100" + "0100" + "0000" + "62"
            + "00000000" + "00000000" + "03000000"
            + "0000" + "0000" + "0100" + "0000" + "63");
    }

    private static void checkPieces(ListingRow x, int begin, int headers, int place, int start) {
        String what = "6 make(" + begin + ")";
        due(what, x.make(begin), 27 + 12 * headers);
        due(what + " headers", x.size(1), headers);
        due(what + " begin", x.size(3), begin);
        due(what + " indexes", x.size(2), place < 0 ? 0 : 1);
        due(what + " index place", x.index(0, 0), place < 0 ? NONE : place);
        due(what + " index start", x.index(0, 1), place < 0 ? NONE : start);
        due(what + " index name", x.index(0, 2), place < 0 ? NONE : 1);
        due(what + " check", x.check(), 3);
    }

    private static void promise6MakeBegin() {
        ListingRow x = new ListingRow();
        Due.add(x, "a", 1, 0, 0, 1);
        due("6 make(40000)", x.make(40000), 21);
        for (int begin : new int[] {LEAST, -1, 40001, MOST}) {
            due("6 make of a bad begin", x.make(begin), BAD);
        }
        due("6 begin after BAD", x.size(3), 40000);
    }

    private static void promise7Size() {
        ListingRow x = new ListingRow();
        for (int what : new int[] {LEAST, -1, 4, MOST}) {
            due("7 size(" + what + ")", x.size(what), BAD);
        }
        Due.add(x, "a", 1, 0, 0, 1);
        Due.add(x, "b", 1, 1, 0, 1);
        due("7 size without make", x.size(0), 0);
        x.make(8180);
        due("7 bytes", x.size(0), 42);
        due("7 headers", x.size(1), 2);
        due("7 indexes", x.size(2), 1);
        due("7 begin", x.size(3), 8180);
        x.cut(3);
        due("7 bytes after cut", x.size(0), 3);
        due("7 headers after cut", x.size(1), 2);
        due("7 indexes after cut", x.size(2), 1);
        due("7 begin after cut", x.size(3), 8180);
        Due.drop(x, "a");
        due("7 headers after drop", x.size(1), 2);
        x.make(1);
        due("7 headers after make", x.size(1), 1);
        due("7 indexes after make", x.size(2), 0);
        due("7 begin after make", x.size(3), 1);
    }

    private static void promise8Bytes() {
        ListingRow x = new ListingRow();
        Due.add(x, "\u00fe\u0081", 1, 0, 0, 1);
        due("8 make", x.make(0), 22);
        due("8 bytes(0)", x.bytes(0), 0);
        due("8 bytes(1)", x.bytes(1), 1);
        due("8 bytes(2), 0 behind the end", x.bytes(2), 0x000081fe00010001L);
        for (int i : new int[] {3, 4, -1, LEAST, MOST, 1 << 29, -(1 << 29), 1 << 28, 1 << 30}) {
            due("8 bytes(" + i + ")", x.bytes(i), 0);
        }
        for (int i = 0; i < 16; i++) {
            x.patch(i, 0xf0 + i);
        }
        due("8 bytes(0) without a sign", x.bytes(0), 0xf7f6f5f4f3f2f1f0L);
        due("8 bytes(1) without a sign", x.bytes(1), 0xfffefdfcfbfaf9f8L);
        x.cut(11);
        due("8 bytes(1) after cut", x.bytes(1), 0xfaf9f8L);
        due("8 bytes(2) after cut", x.bytes(2), 0);
        x.cut(8);
        due("8 bytes(0) after cut", x.bytes(0), 0xf7f6f5f4f3f2f1f0L);
        due("8 bytes(1) after cut(8)", x.bytes(1), 0);
        x.cut(0);
        due("8 bytes(0) after cut(0)", x.bytes(0), 0);
    }

    private static void promise9Index() {
        ListingRow x = new ListingRow();
        Due.add(x, "a", 1, 0, 0, 1);
        Due.add(x, "bcd", 2, 0, 0, 1);
        x.make(8192 - 21);
        for (int what : new int[] {LEAST, -1, 3, MOST}) {
            due("9 a bad what", x.index(0, what), BAD);
            due("9 BAD comes before NONE", x.index(1, what), BAD);
        }
        for (int i : new int[] {LEAST, -1, 1, MOST}) {
            for (int what = 0; what < 3; what++) {
                due("9 no such index", x.index(i, what), NONE);
            }
        }
        due("9 place", x.index(0, 0), 21);
        due("9 start", x.index(0, 1), 8194);
        due("9 name's bytes", x.index(0, 2), 3);
        x.clear();
        due("9 clear leaves indexes", x.index(0, 2), 3);
        x.make(0);
        due("9 make takes them away", x.index(0, 0), NONE);
    }

    private static void promise10Patch() {
        ListingRow x = new ListingRow();
        Due.add(x, "\u00ff", 1, 0, 0, 1);
        x.make(0);
        due("10 patch", x.patch(20, 97), 255);
        due("10 patch of it again", x.patch(20, 0x1ff), 97);
        due("10 the lowest eight bits", x.patch(20, -128), 255);
        due("10 of a number below 0", x.patch(20, 256), 128);
        due("10 to 0", x.patch(20, 98), 0);
        for (int i : new int[] {LEAST, -1, 21, MOST}) {
            due("10 patch of none", x.patch(i, 1), NONE);
        }
        due("10 check of the new name", x.check(), 1);
        due("10 find of the new name", Due.find(x, "b"), 1);
        x.cut(20);
        due("10 patch behind a cut", x.patch(20, 1), NONE);
        due("10 patch before it", x.patch(19, 1), 0);
        x.make(0);
        due("10 make writes all bytes anew", x.check(), 1);
        due("10 find of the old name", Due.find(x, "\u00ff"), 1);
    }

    private static void promise11Cut() {
        ListingRow x = new ListingRow();
        Due.add(x, "a", 1, 0, 0, 1);
        Due.add(x, "b", 2, 5, 0, 1);
        x.make(0);
        for (int n : new int[] {LEAST, -1, 43, MOST}) {
            due("11 a bad cut", x.cut(n), BAD);
        }
        due("11 a cut of nothing", x.cut(42), 0);
        due("11 check", x.check(), 2);
        due("11 cut in a name", x.cut(41), 1);
        due("11 check", x.check(), NONE);
        due("11 cut of more", x.cut(42), BAD);
        due("11 cut behind a header", x.cut(33), 8);
        due("11 check", x.check(), NONE);
        due("11 cut in a header", x.cut(22), 11);
        due("11 check", x.check(), NONE);
        due("11 cut behind an entry", x.cut(21), 1);
        due("11 check", x.check(), 1);
        due("11 cut of all", x.cut(0), 21);
        due("11 check without bytes", x.check(), 0);
        due("11 cut of nothing", x.cut(0), 0);
        due("11 cut of too much", x.cut(1), BAD);
    }

    private static void promise12Set() {
        ListingRow x = new ListingRow();
        due("12 BAD comes before NONE", x.set(0, 1, 2), BAD);
        due("12 no index", Due.set(x, 0, 1, 2, "a"), NONE);
        due("12 no tape after NONE", x.set(0, 1, 2), BAD);
        due("12 a name of 257 bytes", Due.set(x, 0, 1, 2, Due.repeat('a', 257)), BAD);
        due("12 no tape after BAD", x.feed(97, 1), 1);
        x.drop();
        Due.add(x, "a", 1, 0, 0, 1);
        Due.add(x, "b", 2, 0, 0, 1);
        x.make(8192 - 21);
        for (int i : new int[] {LEAST, -1, 1, MOST}) {
            due("12 no such index", Due.set(x, i, 1, 2, "a"), NONE);
        }
        due("12 check before", x.check(), 2);
        due("12 set", Due.set(x, 0, LEAST, MOST, Due.repeat('\0', 256)), 0);
        due("12 no tape after set", x.set(0, 1, 2), BAD);
        due("12 place", x.index(0, 0), LEAST);
        due("12 start", x.index(0, 1), MOST);
        due("12 name's bytes", x.index(0, 2), 256);
        due("12 check", x.check(), NONE);
        due("12 set as it was", Due.set(x, 0, 21, 8194, "b"), 0);
        due("12 check as it was", x.check(), 2);
        due("12 a name of a slash", Due.set(x, 0, 21, 8194, "/"), 0);
        due("12 its bytes", x.index(0, 2), 1);
    }

    private static void dueCheck(String what, String hex, int want) {
        ListingRow x = Rows.listed(hex);
        due("13 " + what, x.check(), want);
        due("13 " + what + ", asked again", x.check(), want);
        due("13 " + what + ", first entry", x.entry(0, 0), want > 0 ? 10 : NONE);
        due("13 " + what + ", entry behind", x.entry(want, 0), NONE);
    }

    private static void promise13CheckShape() {
        String two = "01" + Rows.HEADER.substring(2);
        dueCheck("no bytes", "", 0);
        dueCheck("an entry", Rows.HEADER + Rows.ENTRY + "61", 1);
        dueCheck("two entries", two + Rows.ENTRY + "61" + Rows.ENTRY + "62", 2);
        dueCheck("two headers", Rows.HEADER + Rows.ENTRY + "61" + Rows.HEADER + Rows.ENTRY + "62", 2);
        dueCheck("two headers, 3 entries", two + Rows.ENTRY + "61" + Rows.ENTRY + "62" + Rows.HEADER + Rows.ENTRY + "63", 3);
        dueCheck("a header alone", Rows.HEADER, NONE);
        dueCheck("a byte", "00", NONE);
        dueCheck("11 bytes of a header", Rows.HEADER.substring(2), NONE);
        dueCheck("no name", Rows.HEADER + Rows.ENTRY, NONE);
        dueCheck("7 bytes of an entry", Rows.HEADER + Rows.ENTRY.substring(2), NONE);
        dueCheck("less of a name", Rows.HEADER + "07000000" + "03000100" + "61", NONE);
        dueCheck("a name of two", Rows.HEADER + "07000000" + "03000100" + "6161", 1);
        dueCheck("a byte too much", Rows.HEADER + Rows.ENTRY + "61" + "00", NONE);
        dueCheck("a header at the end", Rows.HEADER + Rows.ENTRY + "61" + Rows.HEADER, NONE);
        dueCheck("an entry too much", Rows.HEADER + Rows.ENTRY + "61" + Rows.ENTRY + "62", NONE);
        dueCheck("an entry too few", two + Rows.ENTRY + "61", NONE);
        dueCheck("an entry too few before a header", two + Rows.ENTRY + "61" + Rows.HEADER + Rows.ENTRY + "62", NONE);
        for (String count : new String[] {"00010000", "00000100", "00000001", "ffffffff", "00000080"}) {
            dueCheck("a count " + count, count + Rows.HEADER.substring(8) + Rows.ENTRY + "61", NONE);
        }
    }

    private static void promise13CheckNames() {
        String two = "01" + Rows.HEADER.substring(2);
        for (String byteOfNone : new String[] {"00", "2f", "2e"}) {
            dueCheck("a name " + byteOfNone, Rows.HEADER + Rows.ENTRY + byteOfNone, NONE);
        }
        for (String byteOfOne : new String[] {"01", "2d", "30", "7f", "80", "ae", "af", "ff"}) {
            dueCheck("a name " + byteOfOne, Rows.HEADER + Rows.ENTRY + byteOfOne, 1);
        }
        String entryOfTwo = "07000000" + "03000100";
        for (String bad : new String[] {"2e2e", "6100", "0061", "2f61", "612f"}) {
            dueCheck("a name " + bad, Rows.HEADER + entryOfTwo + bad, NONE);
        }
        dueCheck("a name 2e61", Rows.HEADER + entryOfTwo + "2e61", 1);
        dueCheck("a name 612e", Rows.HEADER + entryOfTwo + "612e", 1);
        dueCheck("a name 2e2e2e", Rows.HEADER + "07000000" + "03000200" + "2e2e2e", 1);
        dueCheck("a name twice", two + Rows.ENTRY + "61" + Rows.ENTRY + "61", NONE);
        dueCheck("names not in order", two + Rows.ENTRY + "62" + Rows.ENTRY + "61", NONE);
        dueCheck("names without a sign", two + Rows.ENTRY + "7f" + Rows.ENTRY + "80", 2);
        dueCheck("names with a sign", two + Rows.ENTRY + "80" + Rows.ENTRY + "7f", NONE);
        dueCheck("a beginning first", two + Rows.ENTRY + "61" + entryOfTwo + "6101", 2);
        dueCheck("a beginning behind", two + entryOfTwo + "6101" + Rows.ENTRY + "61", NONE);
        dueCheck("a shorter name behind", two + entryOfTwo + "6161" + Rows.ENTRY + "62", 2);
        dueCheck("a name twice over headers", Rows.HEADER + Rows.ENTRY + "61" + Rows.HEADER + Rows.ENTRY + "61", NONE);
        dueCheck("names not in order over headers", Rows.HEADER + Rows.ENTRY + "62" + Rows.HEADER + Rows.ENTRY + "61", NONE);
    }

    private static void promise13CheckLongName() {
        ListingRow x = new ListingRow();
        Due.add(x, Due.repeat('n', 256), 10, 5, 7, 3);
        Due.add(x, Due.repeat('o', 20), 10, 5, 7, 3);
        due("13 make", x.make(0), 304);
        x.patch(0, 0);
        for (int i = 276; i < 284; i++) {
            x.patch(i, 'n');
        }
        x.cut(277);
        due("13 bytes behind a name of 256", x.check(), NONE);
        due("13 a name of 257", x.patch(18, 0) + x.patch(19, 1), 255);
        due("13 it is no name", x.check(), NONE);
        x.patch(18, 255);
        x.patch(19, 0);
        x.cut(276);
        due("13 a name of 256", x.check(), 1);
        due("13 its bytes", x.entry(0, 4), 256);
    }

    private static String numbers(String header, String difference) {
        return "00000000" + "05000000" + header + "0700" + difference + "0300" + "0000" + "61";
    }

    private static void promise13CheckKnown() {
        dueCheck("a difference 10", numbers("00000000", "0a00"), 1);
        dueCheck("a difference -1", numbers("0b000000", "ffff"), 1);
        dueCheck("a difference -32768", numbers("0a800000", "0080"), 1);
        dueCheck("a number over the top", numbers("ffffffff", "0b00"), NONE);
        dueCheck("a number from 2^31 on", numbers("0a000080", "0000"), NONE);
        dueCheck("a difference without a sign", numbers("0b00ffff", "ffff"), NONE);
        dueCheck("a number below 0", numbers("00000000", "f6ff"), NONE);
        dueCheck("number 0", numbers("00000000", "0000"), NONE);
        dueCheck("a number that is not known", numbers("0b000000", "0000"), NONE);
        dueCheck("number 100001", numbers("a1860100", "0000"), NONE);
        dueCheck("another start", "00000000" + "06000000" + "0a000000" + Rows.ENTRY + "61", NONE);
        dueCheck("a start too high", "00000000" + "05000100" + "0a000000" + Rows.ENTRY + "61", NONE);
        dueCheck("a start of 2^31 more", "00000000" + "05000080" + "0a000000" + Rows.ENTRY + "61", NONE);
        dueCheck("another place", Rows.HEADER + "0600" + "0000" + "0300" + "0000" + "61", NONE);
        dueCheck("a place too high", Rows.HEADER + "0780" + "0000" + "0300" + "0000" + "61", NONE);
        dueCheck("another kind", Rows.HEADER + "0700" + "0000" + "0200" + "0000" + "61", NONE);
        dueCheck("a kind too high", Rows.HEADER + "0700" + "0000" + "0301" + "0000" + "61", NONE);
        dueCheck("the second entry's place", "01" + Rows.HEADER.substring(2) + Rows.ENTRY + "61" + "00" + Rows.ENTRY.substring(2) + "62", NONE);
    }

    private static void dueCheckWithIndex(String what, int place, int start, String name, int want) {
        ListingRow x = Rows.threeHeaders();
        due("13 check before " + what, x.check(), 3);
        due("13 set of " + what, Due.set(x, 0, place, start, name), 0);
        due("13 check with " + what, x.check(), want);
    }

    private static void promise13CheckIndexes() {
        dueCheckWithIndex("the index itself", 21, 8194, "b", 3);
        dueCheckWithIndex("a later header", 42, 8194, "c", 3);
        dueCheckWithIndex("the first header", 0, 0, "a", NONE);
        dueCheckWithIndex("a place within a header", 22, 8194, "b", NONE);
        dueCheckWithIndex("a place of an entry", 33, 8194, "b", NONE);
        dueCheckWithIndex("a place at the end", 63, 8194, "c", NONE);
        dueCheckWithIndex("a place behind the end", 84, 8194, "c", NONE);
        dueCheckWithIndex("a place below 0", -21, 8194, "b", NONE);
        dueCheckWithIndex("the start of the piece before", 21, 0, "b", NONE);
        dueCheckWithIndex("a start of 8192", 21, 8192, "b", NONE);
        dueCheckWithIndex("the start of the piece behind", 42, 16388, "c", NONE);
        dueCheckWithIndex("another name", 21, 8194, "c", NONE);
        dueCheckWithIndex("a longer name", 21, 8194, "bb", NONE);
        dueCheckWithIndex("a name of the header before", 42, 8194, "b", NONE);
        ListingRow x = Rows.threeHeaders();
        x.cut(42);
        due("13 check with less entries", x.check(), 2);
        x.cut(21);
        due("13 check without the index's header", x.check(), NONE);
        x.cut(0);
        due("13 check without bytes, with an index", x.check(), NONE);
        due("13 entry of it", x.entry(0, 0), NONE);
        ListingRow y = Rows.threeHeaders();
        y.patch(41, 'B');
        due("13 check of another first name", y.check(), NONE);
        y.patch(41, 'b');
        due("13 check as it was", y.check(), 3);
    }

    private static void promise14Entry() {
        ListingRow x = new ListingRow();
        Due.add(x, "b", 40000, 65535, 8191, 7);
        Due.add(x, "abc", 100000, 3, 4, 5);
        Due.add(x, "ac", 99000, 3, 6, 1);
        due("14 entry without make", x.entry(0, 0), NONE);
        x.make(0);
        long[][] want = {{100000, 5, 4, 3, 3}, {99000, 1, 6, 3, 2}, {40000, 7, 8191, 65535, 1}};
        for (int i = 2; i >= 0; i--) {
            for (int what = 0; what < 5; what++) {
                due("14 entry(" + i + ", " + what + ")", x.entry(i, what), want[i][what]);
            }
        }
        for (int what : new int[] {LEAST, -1, 5, MOST}) {
            due("14 a bad what", x.entry(0, what), BAD);
            due("14 BAD comes before NONE", x.entry(-1, what), BAD);
        }
        for (int i : new int[] {LEAST, -2, -1, 3, MOST}) {
            due("14 no such entry", x.entry(i, 0), NONE);
        }
        x.clear();
        due("14 an entry of the listing", x.entry(0, 0), 100000);
        x.patch(0, 2);
        due("14 an entry of a wrong listing", x.entry(0, 0), NONE);
        due("14 none of a wrong listing", x.entry(-2, 0), NONE);
        due("14 BAD of a wrong listing", x.entry(0, 5), BAD);
    }

    private static void dueFind(ListingRow x, String name, int want, int passed) {
        String what = "find of " + name.substring(Math.max(0, name.length() - 9));
        due("15 " + what, Due.find(x, name), want);
        due("16 passed by " + what, x.passed(), passed);
        due("16 passed again", x.passed(), passed);
    }

    private static void promise15FindAnd16Passed() {
        ListingRow x = new ListingRow();
        Due.add(x, "b", 10, 0, 0, 1);
        Due.add(x, "bb", 30000, 0, 0, 1);
        Due.add(x, "d", 20, 5, 0, 1);
        Due.add(x, "\u0090", 30, 0, 0, 1);
        dueFind(x, "b", NONE, 0);
        x.make(0);
        dueFind(x, "b", 10, 1);
        dueFind(x, "bb", 30000, 2);
        dueFind(x, "d", 20, 3);
        dueFind(x, "\u0090", 30, 4);
        dueFind(x, "", NONE, 1);
        dueFind(x, "a", NONE, 1);
        dueFind(x, "ba", NONE, 2);
        dueFind(x, "bbb", NONE, 3);
        dueFind(x, "c", NONE, 3);
        dueFind(x, "e", NONE, 4);
        dueFind(x, "\u00ff", NONE, 4);
        dueFind(x, "/", NONE, 1);
        dueFind(x, "d\0", NONE, 4);
        dueFind(x, Due.repeat('b', 300), NONE, 3);
        due("15 no tape after find", x.feed(98, 1), 1);
        due("15 find of the tape alone", x.find(), 10);
        x.feed(98, 1);
        x.patch(0, 7);
        due("15 find in a wrong listing", x.find(), NONE);
        due("16 passed in a wrong listing", x.passed(), 0);
        due("15 no tape after find in a wrong listing", x.feed(98, 1), 1);
        x.patch(0, 1);
        due("15 find in a right listing", x.find(), 10);
        x.patch(0, 7);
        due("16 passed stays till the next find", x.passed(), 1);
        x.cut(0);
        dueFind(x, "b", NONE, 0);
        x.clear();
        x.make(0);
        dueFind(x, "b", NONE, 0);
    }

    private static void promise15FindFromIndexes() {
        ListingRow x = Rows.threeHeaders();
        dueFind(x, "a", 1, 1);
        dueFind(x, "az", NONE, 2);
        dueFind(x, "b", 2, 1);
        dueFind(x, "ba", NONE, 2);
        dueFind(x, "c", 3, 2);
        dueFind(x, "d", NONE, 2);
        dueFind(x, "", NONE, 1);
        Due.set(x, 0, 42, 8194, "c");
        dueFind(x, "b", 2, 2);
        dueFind(x, "bz", NONE, 3);
        dueFind(x, "c", 3, 1);
        dueFind(x, "d", NONE, 1);
    }
}
