/**
 * Each sentence of the document's promises that names a boundary case (too small, too large,
 * empty, full, a wrap-around, a refused call), in a test of its own. No object is used for more
 * than 512 calls; what these don't reach is in BeyondCallsTest.
 */
public final class PromiseEdgesTest {
    private static final int BAD = ListingRow.BAD;
    private static final int NONE = ListingRow.NONE;
    private static final int THERE = ListingRow.THERE;
    private static final int FULL = ListingRow.FULL;
    private static final int LEAST = Integer.MIN_VALUE;
    private static final int MOST = Integer.MAX_VALUE;
    private static final String[] NO_NAMES = {"", ".", "..", "\0", "/", "a\0", "/a", "a/b", Due.repeat('a', 257),
        Due.repeat('a', 300)};

    public static void main(String[] args) {
        promise1_noEntries();
        promise1_nothingKnown();
        promise1_noListing();
        promise2_theNLowestBytesTheLowestFirst();
        promise2_howManyItHas();
        promise2_badNIsNot1To8();
        promise2_fullMoreThan300();
        promise3_howManyThereAre();
        promise3_badTheTapeIsNoName();
        promise3_badANumberIsNotAsSaid();
        promise3_there();
        promise3_refusedAddsNothing();
        promise4_howManyThereAre();
        promise4_badTheTapeIsNoName();
        promise4_none();
        promise5_allEntriesGo();
        promise6_howManyBytes();
        promise6_fromAPlaceOfTheRowOn();
        promise6_badBeginIsNotAsSaid();
        promise7_sizes();
        promise7_headersItWasMadeOf();
        promise7_badWhatIsNoneOfThese();
        promise8_eightBytesTheFirstLowest();
        promise8_0BehindItsEnd();
        promise8_0WhenThereAreNone();
        promise9_ofAnIndexFrom0();
        promise9_badWhatIsNoneOfThese();
        promise9_noneThereIsNoSuchIndex();
        promise10_itsLowestEightBits();
        promise10_whatItWas();
        promise10_noneThereIsNone();
        promise11_keepsItsFirstNBytes();
        promise11_badNIsNot0ToItsBytes();
        promise12_nameOf1To256BytesOfAnyKind();
        promise12_anyPlaceAndStart();
        promise12_badTheTapeHasNoneOfTheseLengths();
        promise12_noneThereIsNoSuchIndex();
        promise13_itsEntriesOrNone();
        promise14_ofEntryI();
        promise14_badWhatIsNoneOfThese();
        promise14_noneTheListingIsNotRight();
        promise14_noneThereIsNoSuchEntry();
        promise15_anyBytes();
        promise15_fromTheLatestIndexNotBehindIt();
        promise15_fromTheFirstHeaderWithoutOne();
        promise15_noneItIsNotRight();
        promise15_noneTheNameIsNotInIt();
        promise16_upToThatWithTheName();
        promise16_upToTheFirstBehindIt();
        promise16_0BeforeTheFirstFind();
        promise16_0IfTheListingWasNotRight();
        promise16_ofTheLatestFind();
        Due.end();
    }

    private static void due(String what, long got, long want) {
        Due.due(what, got, want);
    }

    private static void promise1_noEntries() {
        Due.sentence("Promise 1: A new object", "No entries");
        due("clear", new ListingRow().clear(), 0);
        due("drop", Due.drop(new ListingRow(), "a"), NONE);
        due("make", new ListingRow().make(0), 0);
        due("the first entry", Due.add(new ListingRow(), "a", 1, 0, 0, 1), 1);
        Rows.ofNames("a", "b");
        due("clear of an object behind others", new ListingRow().clear(), 0);
    }

    private static void promise1_nothingKnown() {
        Due.sentence("Promise 1: A new object", "nothing known");
        for (int number : new int[] {0, 2}) {
            ListingRow x = Rows.ofNames("a");
            x.make(0);
            due("check of the only number that got known", x.check(), 1);
            x.patch(8, number);
            due("check of number " + number, x.check(), NONE);
        }
    }

    private static void promise1_noListing() {
        Due.sentence("Promise 1: A new object", "no listing");
        ListingRow x = new ListingRow();
        for (int what = 0; what < 4; what++) {
            due("size " + what, x.size(what), 0);
        }
        due("bytes", x.bytes(0), 0);
        due("index", x.index(0, 0), NONE);
        due("patch", x.patch(0, 1), NONE);
        due("cut of nothing", x.cut(0), 0);
        due("cut of a byte", x.cut(1), BAD);
        due("set", Due.set(x, 0, 0, 0, "a"), NONE);
        due("check", x.check(), 0);
        due("entry", x.entry(0, 0), NONE);
        due("find", Due.find(x, "a"), NONE);
        due("passed", x.passed(), 0);
    }

    private static void promise2_theNLowestBytesTheLowestFirst() {
        Due.sentence("Promise 2: feed", "Puts the n lowest of eight bytes behind the tape, the lowest one first");
        String all = "f1f2f3f4f5f6f7f8";
        for (int n = 1; n <= 8; n++) {
            ListingRow x = new ListingRow();
            due("feed of one", x.feed(0x7e7e7e7e7e7e7e01L, 1), 1);
            due("feed of " + n, x.feed(0xf8f7f6f5f4f3f2f1L, n), 1 + n);
            due("feed of one", x.feed(-1L, 1), 2 + n);
            x.add(1, 0, 0, 1);
            x.make(0);
            Due.due("the name", Due.hex(x).substring(40), "01" + all.substring(0, 2 * n) + "ff");
        }
    }

    private static void promise2_howManyItHas() {
        Due.sentence("Promise 2: feed", "how many it has");
        ListingRow x = new ListingRow();
        int has = 0;
        for (int i = 0; i < 60; i++) {
            int n = 1 + i % 8;
            has += n;
            due("feed of " + n, x.feed(97, n), has);
        }
        due("drop of it", x.drop(), BAD);
        due("feed of an empty tape", x.feed(97, 3), 3);
    }

    private static void promise2_badNIsNot1To8() {
        Due.sentence("Promise 2: feed", "BAD: n is not 1 .. 8");
        ListingRow x = new ListingRow();
        for (int n : new int[] {LEAST, LEAST + 1, -8, -1, 0, 9, 10, 257, 1 << 31, MOST}) {
            due("feed of " + n, x.feed(97, n), BAD);
        }
        due("feed of 1", x.feed(97, 1), 1);
        due("feed of 9", x.feed(97, 9), BAD);
        due("feed of 8", x.feed(97, 8), 9);
        due("feed of 0", x.feed(97, 0), BAD);
        due("feed of 1", x.feed(97, 1), 10);
        Due.feed(x, Due.repeat('a', 290));
        due("feed of 0 to a full tape", x.feed(97, 0), BAD);
        due("feed of 9 to a full tape", x.feed(97, 9), BAD);
        due("feed of 1 to a full tape", x.feed(97, 1), FULL);
    }

    private static void promise2_fullMoreThan300() {
        Due.sentence("Promise 2: feed", "FULL: there would be more than 300");
        for (int n = 1; n <= 8; n++) {
            ListingRow x = new ListingRow();
            Due.feed(x, Due.repeat('a', 301 - n));
            due("feed of " + n + " up to 301", x.feed(98, n), FULL);
            ListingRow y = new ListingRow();
            Due.feed(y, Due.repeat('a', 300 - n));
            due("feed of " + n + " up to 300", y.feed(98, n), 300);
            due("feed of one more", y.feed(98, 1), FULL);
        }
        ListingRow z = new ListingRow();
        Due.feed(z, Due.repeat('a', 296));
        due("feed of 5 up to 301", z.feed(98, 5), FULL);
        due("feed of 8 up to 304", z.feed(98, 8), FULL);
        due("feed of 4 up to 300, FULL having put none", z.feed(98, 4), 300);
    }

    private static void promise3_howManyThereAre() {
        Due.sentence("Promise 3: add", "An entry under the tape's name: how many there are");
        ListingRow x = new ListingRow();
        for (int i = 0; i < 255; i++) {
            due("add", Due.add(x, "n" + i, 1, 0, 0, 1), 1 + i);
        }
        due("drop", Due.drop(x, "n0"), 254);
    }

    private static void promise3_badTheTapeIsNoName() {
        Due.sentence("Promise 3: add", "BAD: the tape is no name");
        ListingRow x = new ListingRow();
        for (String name : NO_NAMES) {
            due("add of a tape of " + name.length(), Due.add(x, name, 1, 0, 0, 1), BAD);
        }
        due("the first entry", Due.add(x, "a", 1, 0, 0, 1), 1);
        due("add without a tape", x.add(1, 0, 0, 1), BAD);
        due("add of 256 bytes", Due.add(x, Due.repeat('a', 256), 1, 0, 0, 1), 2);
    }

    private static void promise3_badANumberIsNotAsSaid() {
        Due.sentence("Promise 3: add", "or a number is not as said");
        int[][] bad = {{0, 0, 0, 1}, {100001, 0, 0, 1}, {1, -1, 0, 1}, {1, 65536, 0, 1}, {1, 0, -1, 1},
            {1, 0, 8192, 1}, {1, 0, 0, 0}, {1, 0, 0, 8}};
        int[][] good = {{1, 0, 0, 1}, {100000, 0, 0, 1}, {1, 65535, 0, 1}, {1, 0, 8191, 1}, {1, 0, 0, 7},
            {100000, 65535, 8191, 7}};
        ListingRow x = new ListingRow();
        for (int[] n : bad) {
            due("add of a bad number", Due.add(x, "a", n[0], n[1], n[2], n[3]), BAD);
        }
        for (int i = 0; i < good.length; i++) {
            due("add of good numbers", Due.add(x, "n" + i, good[i][0], good[i][1], good[i][2], good[i][3]), 1 + i);
        }
        for (int[] n : bad) {
            due("add of a bad number under a name that is there", Due.add(x, "n0", n[0], n[1], n[2], n[3]), BAD);
        }
    }

    private static void promise3_there() {
        Due.sentence("Promise 3: add", "THERE");
        ListingRow x = Rows.ofNames("b", "d", Due.repeat('e', 256));
        for (String name : new String[] {"b", "d", Due.repeat('e', 256)}) {
            due("add of one that is there", Due.add(x, name, 1, 0, 0, 1), THERE);
        }
        String[] others = {"a", "ba", "c", "dd", Due.repeat('e', 255), "f"};
        for (int i = 0; i < others.length; i++) {
            due("add of another one", Due.add(x, others[i], 1, 0, 0, 1), 4 + i);
        }
    }

    private static void promise3_refusedAddsNothing() {
        Due.sentence("Promise 3: add", "BAD: the tape is no name, or a number is not as said; THERE");
        ListingRow x = Rows.ofNames("a");
        x.make(0);
        String before = Due.hex(x);
        due("THERE", Due.add(x, "a", 1, 1, 1, 2), THERE);
        due("a bad number", Due.add(x, "b", 0, 0, 0, 1), BAD);
        due("a bad name", Due.add(x, ".", 1, 1, 1, 2), BAD);
        due("check", x.check(), 1);
        due("make", x.make(0), 21);
        Due.due("bytes", Due.hex(x), before);
        due("clear", x.clear(), 1);
    }

    private static void promise4_howManyThereAre() {
        Due.sentence("Promise 4: drop", "The entry with the tape's name goes: how many there are");
        ListingRow x = Rows.ofNames("c", "a", "b");
        due("drop of the middle one", Due.drop(x, "b"), 2);
        x.make(0);
        due("the first one", x.entry(0, 0), 2);
        due("the last one", x.entry(1, 0), 1);
        due("drop of the first one", Due.drop(x, "a"), 1);
        due("drop of the last one", Due.drop(x, "c"), 0);
        due("make without entries", x.make(0), 0);
    }

    private static void promise4_badTheTapeIsNoName() {
        Due.sentence("Promise 4: drop", "BAD: the tape is no name");
        ListingRow x = Rows.ofNames("a", Due.repeat('a', 256));
        for (String name : NO_NAMES) {
            due("drop of a tape of " + name.length(), Due.drop(x, name), BAD);
        }
        due("drop of 256 bytes", Due.drop(x, Due.repeat('a', 256)), 1);
        due("drop of 1 byte", Due.drop(x, "a"), 0);
        due("drop of no name where nothing is", Due.drop(x, ".."), BAD);
    }

    private static void promise4_none() {
        Due.sentence("Promise 4: drop", "NONE");
        ListingRow x = new ListingRow();
        due("drop where nothing is", Due.drop(x, "a"), NONE);
        Due.add(x, "bb", 1, 0, 0, 1);
        Due.add(x, "d", 1, 0, 0, 1);
        for (String name : new String[] {"a", "b", "bba", "bc", "c", "dd", "e", Due.repeat('b', 256)}) {
            due("drop of " + name, Due.drop(x, name), NONE);
        }
        due("drop of one that is there", Due.drop(x, "d"), 1);
        due("drop of it again", Due.drop(x, "d"), NONE);
        due("clear", x.clear(), 1);
        due("drop of a cleared one", Due.drop(x, "bb"), NONE);
    }

    private static void promise5_allEntriesGo() {
        Due.sentence("Promise 5: clear", "All entries go: how many there were");
        ListingRow x = new ListingRow();
        due("clear of none", x.clear(), 0);
        Due.add(x, "a", 1, 0, 0, 1);
        due("clear of one", x.clear(), 1);
        due("clear of none", x.clear(), 0);
        for (int i = 0; i < 250; i++) {
            Due.add(x, "n" + i, 1, 0, 0, 1);
        }
        due("clear of 250", x.clear(), 250);
        due("add of one that was there", Due.add(x, "n7", 1, 0, 0, 1), 1);
    }

    private static void promise6_howManyBytes() {
        Due.sentence("Promise 6: make", "how many bytes");
        ListingRow x = new ListingRow();
        due("make of none", x.make(0), 0);
        Due.add(x, "a", 1, 0, 0, 1);
        due("make of the least entry", x.make(0), 21);
        Due.add(x, Due.repeat('b', 256), 1, 0, 0, 1);
        due("make with the longest name", x.make(0), 21 + 264);
        x.clear();
        due("size before make", x.size(0), 21 + 264);
        due("make of none again", x.make(0), 0);
        due("size behind make", x.size(0), 0);
        ListingRow y = new ListingRow();
        for (int i = 0; i < 255; i++) {
            Due.add(y, "entry" + (100 + i), 1, i, 0, 1);
        }
        due("make of the most bytes of 512 calls", y.make(0), 255 * 28);
        due("size of it", y.size(0), 255 * 28);
    }

    private static void promise6_fromAPlaceOfTheRowOn() {
        Due.sentence("Promise 6: make", "Makes the listing from a place of the row on");
        ListingRow x = Rows.ofNames("a", "b");
        int[][] due = {{0, 30}, {8170, 30}, {8171, 42}, {8191, 42}, {8192, 30}, {40000, 30}};
        for (int[] d : due) {
            due("make at " + d[0], x.make(d[0]), d[1]);
            due("begin", x.size(3), d[0]);
        }
    }

    private static void promise6_badBeginIsNotAsSaid() {
        Due.sentence("Promise 6: make", "BAD: begin is not as said");
        ListingRow x = Rows.ofNames("a", "b");
        due("make", x.make(8171), 42);
        String before = Due.hex(x);
        Due.add(x, "c", 3, 0, 0, 1);
        for (int begin : new int[] {LEAST, -8192, -1, 40001, 40960, MOST}) {
            due("make at " + begin, x.make(begin), BAD);
        }
        due("begin", x.size(3), 8171);
        due("headers", x.size(1), 2);
        due("indexes", x.size(2), 1);
        Due.due("bytes", Due.hex(x), before);
        due("make at 0", x.make(0), 39);
        due("make at 40000", x.make(40000), 39);
    }

    private static void promise7_sizes() {
        Due.sentence("Promise 7: size", "How many bytes the listing has (0), headers it was made of (1), indexes (2); the begin (3)");
        ListingRow x = Rows.threeHeaders();
        due("bytes", x.size(0), 63);
        due("headers", x.size(1), 3);
        due("indexes", x.size(2), 1);
        due("begin", x.size(3), 8171);
        x.clear();
        due("make without entries", x.make(40000), 0);
        due("bytes", x.size(0), 0);
        due("headers", x.size(1), 0);
        due("indexes", x.size(2), 0);
        due("begin", x.size(3), 40000);
    }

    private static void promise7_headersItWasMadeOf() {
        Due.sentence("Promise 7: size", "headers it was made of (1)");
        ListingRow x = Rows.threeHeaders();
        x.cut(42);
        due("headers behind cut", x.size(1), 3);
        x.patch(0, 9);
        due("headers behind patch", x.size(1), 3);
        x.cut(0);
        due("headers without bytes", x.size(1), 3);
        x.clear();
        due("headers without entries", x.size(1), 3);
        due("a bad make", x.make(-1), BAD);
        due("headers behind it", x.size(1), 3);
        x.make(0);
        due("headers behind make", x.size(1), 0);
    }

    private static void promise7_badWhatIsNoneOfThese() {
        Due.sentence("Promise 7: size", "BAD: what is none of these");
        ListingRow x = Rows.threeHeaders();
        for (int what : new int[] {LEAST, LEAST + 3, -4, -1, 4, 5, 256, MOST}) {
            due("size " + what + " of a listing", x.size(what), BAD);
            due("size " + what + " of a new object", new ListingRow().size(what), BAD);
        }
        due("size 0", x.size(0), 63);
        due("size 3", x.size(3), 8171);
    }

    private static void promise8_eightBytesTheFirstLowest() {
        Due.sentence("Promise 8: bytes", "Eight bytes of the listing from 8 i on, the first one lowest");
        ListingRow x = Rows.ofNames(Due.repeat('a', 12));
        due("make", x.make(0), 32);
        for (int i = 0; i < 32; i++) {
            x.patch(i, 0xe0 + i);
        }
        due("bytes 0", x.bytes(0), 0xe7e6e5e4e3e2e1e0L);
        due("bytes 1", x.bytes(1), 0xefeeedecebeae9e8L);
        due("bytes 2", x.bytes(2), 0xf7f6f5f4f3f2f1f0L);
        due("bytes 3", x.bytes(3), 0xfffefdfcfbfaf9f8L);
        due("bytes 4", x.bytes(4), 0);
    }

    private static void promise8_0BehindItsEnd() {
        Due.sentence("Promise 8: bytes", "0 behind its end");
        ListingRow x = Rows.ofNames(Due.repeat('a', 12));
        x.make(0);
        for (int i = 0; i < 32; i++) {
            x.patch(i, 0xff);
        }
        for (int n = 32; n >= 24; n--) {
            x.cut(n);
            long want = n == 32 ? -1L : (1L << 8 * (n - 24)) - 1;
            due("the last bytes of " + n, x.bytes(3), want);
            due("the bytes before", x.bytes(2), -1L);
            due("the bytes behind", x.bytes(4), 0);
        }
        x.cut(1);
        due("bytes 0 of one byte", x.bytes(0), 255);
        x.cut(0);
        due("bytes 0 of no byte", x.bytes(0), 0);
        x.clear();
        Due.add(x, "b", 1, 0, 0, 1);
        due("make of a shorter one", x.make(0), 21);
        due("its last bytes, nothing being left of the longer one", x.bytes(2), 0x6200000001L);
        due("the bytes behind", x.bytes(3), 0);
    }

    private static void promise8_0WhenThereAreNone() {
        Due.sentence("Promise 8: bytes", "0 when there are none");
        ListingRow x = Rows.ofNames(Due.repeat('a', 12));
        x.make(0);
        for (int i = 0; i < 32; i++) {
            x.patch(i, 0xff);
        }
        // 8 i of the last ones is, by wrap-around, 0, 8 or -8.
        int[] none = {LEAST, -2, -1, 4, 5, MOST, 1 << 28, 1 << 29, 1 << 30, -(1 << 29), (1 << 29) + 1, (1 << 29) - 1};
        for (int i : none) {
            due("bytes " + i, x.bytes(i), 0);
            due("bytes " + i + " of a new object", new ListingRow().bytes(i), 0);
        }
        due("bytes 0 of a new object", new ListingRow().bytes(0), 0);
        due("bytes 0", x.bytes(0), -1L);
        due("bytes 3", x.bytes(3), -1L);
    }

    private static void promise9_ofAnIndexFrom0() {
        Due.sentence("Promise 9: index", "Of an index, from 0: its place (what = 0), start (1), its name's bytes (2)");
        for (int length : new int[] {1, 2, 255, 256}) {
            ListingRow x = Rows.ofNames("a", Due.repeat('b', length));
            x.make(8192 - 21);
            due("place", x.index(0, 0), 21);
            due("start", x.index(0, 1), 8194);
            due("name's bytes", x.index(0, 2), length);
        }
    }

    private static void promise9_badWhatIsNoneOfThese() {
        Due.sentence("Promise 9: index", "BAD: what is none of these");
        ListingRow x = Rows.threeHeaders();
        for (int what : new int[] {LEAST, -1, 3, 4, MOST}) {
            due("what " + what, x.index(0, what), BAD);
            due("what " + what + " of no index", x.index(1, what), BAD);
            due("what " + what + " of a new object", new ListingRow().index(0, what), BAD);
        }
    }

    private static void promise9_noneThereIsNoSuchIndex() {
        Due.sentence("Promise 9: index", "NONE: there is no such index");
        ListingRow x = Rows.threeHeaders();
        for (int what = 0; what < 3; what++) {
            for (int i : new int[] {LEAST, -1, 1, 2, MOST}) {
                due("index " + i, x.index(i, what), NONE);
            }
            due("index 0 of a new object", new ListingRow().index(0, what), NONE);
        }
        x.cut(0);
        due("index 0 without bytes", x.index(0, 0), 21);
        x.make(0);
        due("index 0 of a listing in one piece", x.index(0, 0), NONE);
    }

    private static void promise10_itsLowestEightBits() {
        Due.sentence("Promise 10: patch", "A byte of the listing becomes b (its lowest eight bits)");
        ListingRow x = Rows.ofNames("a");
        x.make(0);
        int[][] due = {{0, 0}, {1, 1}, {127, 127}, {128, 128}, {255, 255}, {256, 0}, {257, 1}, {-1, 255}, {-128, 128},
            {-256, 0}, {LEAST, 0}, {MOST, 255}, {0x12345678, 0x78}};
        for (int[] d : due) {
            x.patch(3, d[0]);
            due("bytes behind a patch to " + d[0], x.bytes(0), (long) d[1] << 24);
        }
    }

    private static void promise10_whatItWas() {
        Due.sentence("Promise 10: patch", "what it was");
        ListingRow x = Rows.ofNames("\u00ff");
        x.make(0);
        due("the name's byte", x.patch(20, 128), 255);
        due("it again", x.patch(20, 127), 128);
        due("it again", x.patch(20, 256), 127);
        due("it again", x.patch(20, 97), 0);
        due("the first byte", x.patch(0, 0), 0);
        due("check of a new name", x.check(), 1);
        due("find of it", Due.find(x, "a"), 1);
    }

    private static void promise10_noneThereIsNone() {
        Due.sentence("Promise 10: patch", "NONE: there is none");
        ListingRow x = Rows.ofNames("a");
        due("patch before make", x.patch(0, 1), NONE);
        x.make(0);
        String before = Due.hex(x);
        for (int i : new int[] {LEAST, -1, 21, 22, 8192, 65536, MOST}) {
            due("patch of byte " + i, x.patch(i, 77), NONE);
        }
        Due.due("bytes", Due.hex(x), before);
        due("patch of the first byte", x.patch(0, 0), 0);
        due("patch of the last byte", x.patch(20, 97), 97);
        x.cut(20);
        due("patch of a byte that went", x.patch(20, 1), NONE);
        due("patch of the last byte", x.patch(19, 0), 0);
        x.cut(0);
        due("patch of no byte", x.patch(0, 1), NONE);
    }

    private static void promise11_keepsItsFirstNBytes() {
        Due.sentence("Promise 11: cut", "The listing keeps its first n bytes: how many went");
        ListingRow x = Rows.ofNames("a", "b");
        x.make(0);
        String before = Due.hex(x);
        due("cut of nothing", x.cut(30), 0);
        due("cut of one byte", x.cut(29), 1);
        due("bytes", x.size(0), 29);
        Due.due("the first bytes", Due.hex(x), before.substring(0, 58));
        due("cut down to one", x.cut(1), 28);
        due("cut of the last one", x.cut(0), 1);
        due("bytes", x.size(0), 0);
        due("cut of nothing of nothing", x.cut(0), 0);
    }

    private static void promise11_badNIsNot0ToItsBytes() {
        Due.sentence("Promise 11: cut", "BAD: n is not 0 .. its bytes");
        ListingRow x = Rows.ofNames("a", "b");
        due("cut before make", x.cut(1), BAD);
        x.make(0);
        for (int n : new int[] {LEAST, -30, -1, 31, 32, 8192, 65536, MOST}) {
            due("cut to " + n, x.cut(n), BAD);
        }
        due("bytes", x.size(0), 30);
        due("check", x.check(), 2);
        due("cut to 29", x.cut(29), 1);
        due("cut to 30 again", x.cut(30), BAD);
        due("bytes", x.size(0), 29);
        due("cut to 0", x.cut(0), 29);
        due("cut to 1", x.cut(1), BAD);
    }

    private static void promise12_nameOf1To256BytesOfAnyKind() {
        Due.sentence("Promise 12: set", "the tape as its name (1 .. 256 bytes of any kind): 0");
        ListingRow x = Rows.threeHeaders();
        String[] names = {"b", "\0", "/", ".", "..", "\u00ff", Due.repeat('/', 255), Due.repeat('\0', 256)};
        for (String name : names) {
            due("set", Due.set(x, 0, 21, 8194, name), 0);
            due("name's bytes", x.index(0, 2), name.length());
            due("check", x.check(), name.equals("b") ? 3 : NONE);
        }
        due("set as it was", Due.set(x, 0, 21, 8194, "b"), 0);
        due("check", x.check(), 3);
        due("entries of the directory", x.clear(), 3);
    }

    private static void promise12_anyPlaceAndStart() {
        Due.sentence("Promise 12: set", "Index i becomes another one: place, start");
        ListingRow x = Rows.threeHeaders();
        for (int n : new int[] {LEAST, -1, 0, 20, 21, 63, 65536, MOST}) {
            due("set", Due.set(x, 0, n, ~n, "b"), 0);
            due("place", x.index(0, 0), n);
            due("start", x.index(0, 1), ~n);
            due("indexes", x.size(2), 1);
            due("check", x.check(), NONE);
            due("find", Due.find(x, "c"), NONE);
        }
    }

    private static void promise12_badTheTapeHasNoneOfTheseLengths() {
        Due.sentence("Promise 12: set", "BAD: the tape has none of these lengths");
        ListingRow x = Rows.threeHeaders();
        for (int length : new int[] {0, 257, 300}) {
            due("set of " + length + " bytes", Due.set(x, 0, 1, 2, Due.repeat('b', length)), BAD);
            due("set of " + length + " bytes for no index", Due.set(x, 1, 1, 2, Due.repeat('b', length)), BAD);
        }
        due("place", x.index(0, 0), 21);
        due("start", x.index(0, 1), 8194);
        due("name's bytes", x.index(0, 2), 1);
        due("check", x.check(), 3);
        due("set of 1 byte", Due.set(x, 0, 1, 2, "b"), 0);
        due("set of 256 bytes", Due.set(x, 0, 1, 2, Due.repeat('b', 256)), 0);
    }

    private static void promise12_noneThereIsNoSuchIndex() {
        Due.sentence("Promise 12: set", "NONE: there is no such index");
        due("set in a new object", Due.set(new ListingRow(), 0, 21, 8194, "b"), NONE);
        ListingRow x = Rows.threeHeaders();
        for (int i : new int[] {LEAST, -1, 1, 2, MOST}) {
            due("set of index " + i, Due.set(x, i, 1, 2, "c"), NONE);
        }
        due("indexes", x.size(2), 1);
        due("place", x.index(0, 0), 21);
        due("check", x.check(), 3);
        due("set of index 0", Due.set(x, 0, 42, 8194, "c"), 0);
        due("check", x.check(), 3);
    }

    private static void promise13_itsEntriesOrNone() {
        Due.sentence("Promise 13: check", "Whether the listing is right: its entries, or NONE");
        due("no entries", new ListingRow().check(), 0);
        ListingRow x = new ListingRow();
        for (int i = 0; i < 250; i++) {
            Due.add(x, "n" + i, 1 + i, 0, 0, 1);
            if (i == 0) {
                x.make(0);
                due("one entry", x.check(), 1);
            }
        }
        due("one entry before make", x.check(), 1);
        due("make", x.make(0), 12 + 250 * 8 + 10 * 2 + 90 * 3 + 150 * 4);
        due("250 entries", x.check(), 250);
        due("the same again", x.check(), 250);
        x.patch(0, 0);
        due("none", x.check(), NONE);
        due("none again", x.check(), NONE);
    }

    private static void promise14_ofEntryI() {
        Due.sentence("Promise 14: entry", "its number (what = 0), kind (1), place (2), start (3), its name's bytes (4)");
        ListingRow x = new ListingRow();
        int[][] told = {{1, 1, 0, 0, 1}, {100000, 7, 8191, 65535, 256}, {67232, 6, 8190, 65535, 255}, {100000, 7, 8191, 65535, 2}};
        for (int i = 0; i < told.length; i++) {
            Due.add(x, Due.repeat((char) ('a' + i), told[i][4]), told[i][0], told[i][3], told[i][2], told[i][1]);
        }
        x.make(0);
        due("headers", x.size(1), 2);
        for (int i = 0; i < told.length; i++) {
            for (int what = 0; what < 5; what++) {
                due("entry " + i + ", what " + what, x.entry(i, what), told[i][what]);
            }
        }
    }

    private static void promise14_badWhatIsNoneOfThese() {
        Due.sentence("Promise 14: entry", "BAD: what is none of these");
        ListingRow x = Rows.threeHeaders();
        ListingRow wrong = Rows.threeHeaders();
        wrong.cut(1);
        for (int what : new int[] {LEAST, -1, 5, 6, MOST}) {
            due("what " + what, x.entry(0, what), BAD);
            due("what " + what + " of no entry", x.entry(3, what), BAD);
            due("what " + what + " of a wrong listing", wrong.entry(0, what), BAD);
            due("what " + what + " of a new object", new ListingRow().entry(0, what), BAD);
        }
        due("what 0", x.entry(2, 0), 3);
        due("what 4", x.entry(2, 4), 1);
    }

    private static void promise14_noneTheListingIsNotRight() {
        Due.sentence("Promise 14: entry", "NONE: the listing is not right");
        ListingRow x = Rows.threeHeaders();
        x.patch(62, '/');
        for (int i = -3; i < 4; i++) {
            for (int what = 0; what < 5; what++) {
                due("entry " + i, x.entry(i, what), NONE);
            }
        }
        x.patch(62, 'c');
        due("entry of a right one", x.entry(0, 0), 1);
        Due.set(x, 0, 21, 8194, "c");
        due("entry with a wrong index", x.entry(0, 0), NONE);
        Due.set(x, 0, 21, 8194, "b");
        due("entry of a right one", x.entry(0, 0), 1);
        Due.add(x, "d", 3, 2, 0, 2);
        due("entry with a number that is known otherwise", x.entry(0, 0), NONE);
        x.make(0);
        due("entry of one that was right before", x.entry(0, 0), NONE);
    }

    private static void promise14_noneThereIsNoSuchEntry() {
        Due.sentence("Promise 14: entry", "or there is no such entry");
        due("entry 0 of a new object", new ListingRow().entry(0, 0), NONE);
        ListingRow x = Rows.threeHeaders();
        for (int what = 0; what < 5; what++) {
            for (int i : new int[] {LEAST, -3, -2, -1, 3, 4, MOST}) {
                due("entry " + i, x.entry(i, what), NONE);
            }
        }
        due("the first one", x.entry(0, 0), 1);
        due("the last one", x.entry(2, 0), 3);
        x.cut(42);
        due("the last one behind cut", x.entry(1, 0), 2);
        due("no such entry behind cut", x.entry(2, 0), NONE);
    }

    private static void dueFind(ListingRow x, String name, int want, int passed) {
        due("find of '" + name + "'", Due.find(x, name), want);
        due("passed by it", x.passed(), passed);
    }

    private static void promise15_anyBytes() {
        Due.sentence("Promise 15: find", "The number to which the tape's name (any bytes) leads in a listing that is right");
        ListingRow x = Rows.ofNames("b", Due.repeat('m', 256), "\u00ff");
        x.make(0);
        dueFind(x, "b", 1, 1);
        dueFind(x, Due.repeat('m', 256), 2, 2);
        dueFind(x, "\u00ff", 3, 3);
        dueFind(x, "", NONE, 1);
        dueFind(x, "\0", NONE, 1);
        dueFind(x, ".", NONE, 1);
        dueFind(x, "..", NONE, 1);
        dueFind(x, "/", NONE, 1);
        dueFind(x, "b\0", NONE, 2);
        dueFind(x, "b/", NONE, 2);
        dueFind(x, Due.repeat('m', 255), NONE, 2);
        dueFind(x, Due.repeat('m', 257), NONE, 3);
        dueFind(x, Due.repeat('m', 300), NONE, 3);
        dueFind(x, Due.repeat('\u00ff', 300), NONE, 3);
    }

    private static void promise15_fromTheLatestIndexNotBehindIt() {
        Due.sentence("Promise 15: find", "looked for from the latest index on whose name is not behind it");
        ListingRow x = new ListingRow();
        String[] names = {"a", "b", "bm", "c", "d"};
        for (int i = 0; i < names.length; i++) {
            Due.add(x, names[i], 1 + i, i / 2, 0, 1);
        }
        // Headers at 0 with a and b, at 30 with bm and c, at 61 with d.
        due("make", x.make(8192 - 30), 82);
        due("index", x.index(0, 0), 30);
        dueFind(x, "bm", 3, 1);
        dueFind(x, "bl\u00ff", NONE, 3);
        dueFind(x, "b", 2, 2);
        dueFind(x, "bm\0", NONE, 2);
        dueFind(x, "bn", NONE, 2);
        dueFind(x, "c", 4, 2);
        dueFind(x, "d", 5, 3);
        dueFind(x, "e", NONE, 3);
        dueFind(x, "\u00ff", NONE, 3);
        due("an index of the last header", Due.set(x, 0, 61, 8194, "d"), 0);
        dueFind(x, "c", 4, 4);
        dueFind(x, "c\u00ff", NONE, 5);
        dueFind(x, "d", 5, 1);
        dueFind(x, "e", NONE, 1);
    }

    private static void promise15_fromTheFirstHeaderWithoutOne() {
        Due.sentence("Promise 15: find", "(from the first header without one)");
        ListingRow x = Rows.threeHeaders();
        dueFind(x, "a", 1, 1);
        dueFind(x, "a\u00ff", NONE, 2);
        dueFind(x, "", NONE, 1);
        x.make(0);
        due("indexes", x.size(2), 0);
        dueFind(x, "a", 1, 1);
        dueFind(x, "b", 2, 2);
        dueFind(x, "c", 3, 3);
        dueFind(x, "d", NONE, 3);
    }

    private static void promise15_noneItIsNotRight() {
        Due.sentence("Promise 15: find", "NONE: it is not right");
        ListingRow x = Rows.threeHeaders();
        dueFind(x, "a", 1, 1);
        x.cut(62);
        dueFind(x, "a", NONE, 0);
        x.cut(42);
        dueFind(x, "a", 1, 1);
        Due.set(x, 0, 21, 0, "b");
        dueFind(x, "a", NONE, 0);
        Due.set(x, 0, 21, 8194, "b");
        dueFind(x, "b", 2, 1);
        Due.add(x, "z", 2, 1, 0, 2);
        dueFind(x, "a", NONE, 0);
    }

    private static void promise15_noneTheNameIsNotInIt() {
        Due.sentence("Promise 15: find", "or the name is not in it");
        ListingRow x = Rows.ofNames("b", "bb", "d");
        dueFind(x, "b", NONE, 0);
        x.make(0);
        dueFind(x, "a", NONE, 1);
        dueFind(x, "ba", NONE, 2);
        dueFind(x, "bba", NONE, 3);
        dueFind(x, "c", NONE, 3);
        dueFind(x, "da", NONE, 3);
        Due.add(x, "c", 9, 0, 0, 1);
        dueFind(x, "c", NONE, 3);
        Due.drop(x, "bb");
        dueFind(x, "bb", 2, 2);
        x.make(0);
        dueFind(x, "c", 9, 2);
        dueFind(x, "bb", NONE, 2);
        x.clear();
        x.make(0);
        dueFind(x, "b", NONE, 0);
        dueFind(x, "", NONE, 0);
    }

    private static void promise16_upToThatWithTheName() {
        Due.sentence("Promise 16: passed", "How many entries the latest find() looked at, one by one, up to that with the name");
        ListingRow x = new ListingRow();
        for (int i = 0; i < 100; i++) {
            Due.add(x, "n" + (100 + i), 1 + i, i / 10, 0, 1);
        }
        x.make(0);
        for (int i : new int[] {0, 1, 9, 10, 98, 99}) {
            dueFind(x, "n" + (100 + i), 1 + i, 1 + i);
        }
    }

    private static void promise16_upToTheFirstBehindIt() {
        Due.sentence("Promise 16: passed", "or the first one behind it (these among them)");
        ListingRow x = Rows.ofNames("b", "d", "f");
        x.make(0);
        dueFind(x, "a", NONE, 1);
        dueFind(x, "c", NONE, 2);
        dueFind(x, "e", NONE, 3);
        dueFind(x, "g", NONE, 3);
    }

    private static void promise16_0BeforeTheFirstFind() {
        Due.sentence("Promise 16: passed", "0 before the first find()");
        ListingRow x = new ListingRow();
        due("passed", x.passed(), 0);
        Due.add(x, "a", 1, 0, 0, 1);
        x.make(0);
        due("check", x.check(), 1);
        due("entry", x.entry(0, 0), 1);
        due("passed", x.passed(), 0);
    }

    private static void promise16_0IfTheListingWasNotRight() {
        Due.sentence("Promise 16: passed", "and if the listing was not right");
        ListingRow x = Rows.ofNames("a", "b");
        x.make(0);
        dueFind(x, "b", 2, 2);
        x.patch(0, 2);
        due("passed before the next find", x.passed(), 2);
        dueFind(x, "b", NONE, 0);
        x.patch(0, 1);
        due("passed before the next find", x.passed(), 0);
        dueFind(x, "b", 2, 2);
    }

    private static void promise16_ofTheLatestFind() {
        Due.sentence("Promise 16: passed", "the latest find()");
        ListingRow x = Rows.ofNames("a", "b", "c");
        x.make(0);
        dueFind(x, "c", 3, 3);
        due("passed again", x.passed(), 3);
        dueFind(x, "a", 1, 1);
        x.check();
        x.entry(2, 0);
        x.clear();
        x.make(0);
        x.feed(97, 1);
        due("passed behind other calls", x.passed(), 1);
        due("find in no bytes", x.find(), NONE);
        due("passed", x.passed(), 0);
    }
}
