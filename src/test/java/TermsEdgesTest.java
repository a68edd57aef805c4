/**
 * Each sentence of the document's "What it is" and "Terms" that names a boundary case, in a test
 * of its own: the last input that is taken and the first one that is not, on both ends. No object
 * is used for more than 512 calls; the limits that these don't reach are in BeyondCallsTest.
 */
public final class TermsEdgesTest {
    private static final int BAD = ListingRow.BAD;
    private static final int NONE = ListingRow.NONE;
    private static final int THERE = ListingRow.THERE;
    private static final int FULL = ListingRow.FULL;
    private static final int LEAST = Integer.MIN_VALUE;
    private static final int MOST = Integer.MAX_VALUE;
    private static final String HEADER = Rows.HEADER;
    private static final String HEADER_OF_TWO = Rows.HEADER_OF_TWO;
    private static final String ENTRY = Rows.ENTRY;

    public static void main(String[] args) {
        use_atMost512Calls();
        terms_numbersHaveNoSignAndTheirLowestByteFirst();
        terms_tapeHasUpTo300Bytes();
        terms_eachCallThatReadsTheTapeUsesItUp();
        terms_noOtherCallUsesTheTapeUp();
        terms_nameOf1To256Bytes();
        terms_noneOfANamesBytesIs0Or47();
        terms_nameIsNotJust46Or46And46();
        terms_noTwoNamesTheSame();
        terms_number1To100000();
        terms_start0To65535();
        terms_place0To8191();
        terms_kind1To7();
        terms_orderByNamesBytesWithoutSign();
        terms_orderABeginningBefore();
        terms_knownByTheLatestEntryThatGotIt();
        terms_knownAlsoWhenTheEntryIsThereNoMore();
        terms_piecesOf8192Bytes();
        terms_pieceStarts8194();
        terms_begin0To40000AtFirst0();
        terms_headerTellsItsEntriesLess1();
        terms_differenceWithASign();
        terms_namesBytesLess1();
        making_headerWhenThereIsNoneYet();
        making_headerWhenTheStartIsAnotherOne();
        making_headerWhenTheDifferenceIsTooLarge();
        making_headerWhenTheEntryWouldBeginInAnotherPiece();
        making_noHeaderBeforeAHeaderHasAnEntry();
        making_noIndexOfTheFirstHeader();
        making_indexWhenTheFirstByteIsInAnotherPiece();
        making_indexTellsPlaceStartAndName();
        right_endsBehindTheLastEntryThatItsHeaderTells();
        right_headerTells0To255();
        right_namesOf1To256Bytes();
        right_namesWithout0And47();
        right_namesNotJust46Or46And46();
        right_namesInOrderNoneTwice();
        right_numberIsAKnownOne();
        right_nothingRunsOver();
        right_startPlaceAndKindAreThatOnes();
        right_indexIsOfAHeaderOtherThanTheFirst();
        right_indexStartIsThatOfThePiece();
        right_indexNameIsThatOfTheFirstEntry();
        right_withoutBytesIfThereAreNoIndexes();
        Due.end();
    }

    private static void due(String what, long got, long want) {
        Due.due(what, got, want);
    }

    /** As many entries, each with a header, as leave the given number of the 512 calls. */
    private static ListingRow ofAllCallsBut(int callsLeft) {
        ListingRow x = new ListingRow();
        for (int i = 0; i < (512 - callsLeft) / 2; i++) {
            Due.add(x, "entry" + (100 + i), 1 + i, i, i, 1 + i % 7);
        }
        return x;
    }

    private static void use_atMost512Calls() {
        Due.sentence("What it is", "An object is used for at most 512 calls after it has been made");
        ListingRow x = ofAllCallsBut(2);
        due("511th call: make", x.make(40000), 255 * 28);
        due("512th call: check", x.check(), 255);
        ListingRow y = ofAllCallsBut(4);
        due("509th call: make", y.make(40000), 254 * 28);
        due("510th call: size", y.size(2), 1);
        due("511th call: index", y.index(0, 0), 35 * 28);
        due("512th call: entry", y.entry(253, 3), 253);
        ListingRow z = ofAllCallsBut(4);
        due("509th call: make", z.make(40000), 254 * 28);
        due("510th call: feed", z.feed(0x333533797274_6e65L, 8), 8);
        due("511th call: find", z.find(), 254);
        due("512th call: passed", z.passed(), 219);
        ListingRow v = ofAllCallsBut(2);
        due("511th call: feed", v.feed('z', 1), 1);
        due("512th call: add", v.add(1, 0, 0, 1), 256);
    }

    private static String made(int number, int start, int place, int kind) {
        ListingRow x = new ListingRow();
        Due.add(x, "a", number, start, place, kind);
        due("make", x.make(0), 21);
        due("check", x.check(), 1);
        due("number", x.entry(0, 0), number);
        due("kind", x.entry(0, 1), kind);
        due("place", x.entry(0, 2), place);
        due("start", x.entry(0, 3), start);
        return Due.hex(x);
    }

    private static void terms_numbersHaveNoSignAndTheirLowestByteFirst() {
        Due.sentence("Terms", "NUMBERS in the listing have no sign, but where it is told, and their lowest byte first");
        String end = "0000" + "61";
        Due.due("the least", made(1, 0, 0, 1), "00000000" + "00000000" + "01000000" + "0000" + "0000" + "0100" + end);
        Due.due("127", made(127, 127, 127, 1), "00000000" + "7f000000" + "7f000000" + "7f00" + "0000" + "0100" + end);
        Due.due("128", made(128, 128, 128, 1), "00000000" + "80000000" + "80000000" + "8000" + "0000" + "0100" + end);
        Due.due("255", made(255, 255, 255, 1), "00000000" + "ff000000" + "ff000000" + "ff00" + "0000" + "0100" + end);
        Due.due("256", made(256, 256, 256, 1), "00000000" + "00010000" + "00010000" + "0001" + "0000" + "0100" + end);
        Due.due("32767", made(32767, 32767, 0, 1), "00000000" + "ff7f0000" + "ff7f0000" + "0000" + "0000" + "0100" + end);
        Due.due("32768", made(32768, 32768, 0, 1), "00000000" + "00800000" + "00800000" + "0000" + "0000" + "0100" + end);
        Due.due("65535", made(65535, 65535, 0, 1), "00000000" + "ffff0000" + "ffff0000" + "0000" + "0000" + "0100" + end);
        Due.due("65536", made(65536, 0, 0, 1), "00000000" + "00000000" + "00000100" + "0000" + "0000" + "0100" + end);
        Due.due("the most", made(100000, 65535, 8191, 7),
            "00000000" + "ffff0000" + "a0860100" + "ff1f" + "0000" + "0700" + end);
    }

    private static ListingRow fed(int bytes) {
        ListingRow x = new ListingRow();
        Due.feed(x, Due.repeat('t', bytes));
        return x;
    }

    private static void terms_tapeHasUpTo300Bytes() {
        Due.sentence("Terms", "THE TAPE has up to 300 bytes");
        due("the first byte", fed(0).feed(97, 1), 1);
        due("the 300th byte", fed(299).feed(97, 1), 300);
        due("the 301st byte", fed(300).feed(97, 1), FULL);
    }

    private static void dueNoTape(String what, ListingRow x) {
        due("feed behind " + what, x.feed(97, 1), 1);
    }

    private static void terms_eachCallThatReadsTheTapeUsesItUp() {
        Due.sentence("Terms", "each call that reads it uses it up");
        ListingRow x = new ListingRow();
        due("add", Due.add(x, "a", 1, 0, 0, 1), 1);
        dueNoTape("add", x);
        due("add of one that is there", x.add(1, 0, 0, 1), THERE);
        dueNoTape("add of one that is there", x);
        due("add of a bad number", x.add(0, 0, 0, 1), BAD);
        dueNoTape("add of a bad number", x);
        x.feed('/', 1);
        due("add of a bad name", x.add(1, 0, 0, 1), BAD);
        dueNoTape("add of a bad name", x);
        due("drop", x.drop(), 0);
        dueNoTape("drop", x);
        due("drop of none", x.drop(), NONE);
        dueNoTape("drop of none", x);
        x.feed(0, 1);
        due("drop of a bad name", x.drop(), BAD);
        dueNoTape("drop of a bad name", x);
        due("set of no index", x.set(0, 0, 0), NONE);
        dueNoTape("set of no index", x);
        Due.feed(x, Due.repeat('a', 256));
        due("set of a bad name", x.set(0, 0, 0), BAD);
        dueNoTape("set of a bad name", x);
        due("find in no listing", x.find(), NONE);
        dueNoTape("find in no listing", x);
        ListingRow y = Rows.threeHeaders();
        due("set", Due.set(y, 0, 21, 8194, "b"), 0);
        dueNoTape("set", y);
        due("find", y.find(), 1);
        dueNoTape("find", y);
        y.feed(97, 1);
        due("find of a name that is not in it", y.find(), NONE);
        dueNoTape("find of a name that is not in it", y);
        y.cut(1);
        due("find in a listing that is not right", y.find(), NONE);
        dueNoTape("find in a listing that is not right", y);
    }

    private static void terms_noOtherCallUsesTheTapeUp() {
        Due.sentence("Terms", "each call that reads it uses it up");
        ListingRow x = Rows.threeHeaders();
        due("a tape", x.feed(97, 1), 1);
        due("feed of a bad number of bytes", x.feed(97, 9), BAD);
        due("clear", x.clear(), 3);
        due("a bad make", x.make(-1), BAD);
        due("size", x.size(0), 63);
        due("bytes", x.bytes(0), 0);
        due("index", x.index(0, 0), 21);
        due("patch", x.patch(62, 'd'), 'c');
        due("check", x.check(), 3);
        due("entry", x.entry(0, 0), 1);
        due("passed", x.passed(), 0);
        due("cut", x.cut(42), 21);
        due("make", x.make(0), 0);
        due("the tape", x.feed(97, 1), 2);
    }

    private static void terms_nameOf1To256Bytes() {
        Due.sentence("Terms", "a NAME of 1 to 256 bytes");
        ListingRow x = new ListingRow();
        due("a name of 0 bytes", Due.add(x, "", 1, 0, 0, 1), BAD);
        due("a name of 1 byte", Due.add(x, "a", 1, 0, 0, 1), 1);
        due("a name of 255 bytes", Due.add(x, Due.repeat('a', 255), 1, 0, 0, 1), 2);
        due("a name of 256 bytes", Due.add(x, Due.repeat('a', 256), 1, 0, 0, 1), 3);
        due("a name of 257 bytes", Due.add(x, Due.repeat('a', 257), 1, 0, 0, 1), BAD);
        due("a name of 300 bytes", Due.add(x, Due.repeat('a', 300), 1, 0, 0, 1), BAD);
        due("make", x.make(0), 12 + 3 * 8 + 1 + 255 + 256);
        due("bytes of the first name", x.entry(0, 4), 1);
        due("bytes of the last name", x.entry(2, 4), 256);
    }

    private static void terms_noneOfANamesBytesIs0Or47() {
        Due.sentence("Terms", "none of them 0 or 47");
        ListingRow x = new ListingRow();
        int added = 0;
        for (char c : new char[] {0, 1, 45, 47, 48, 127, 128, 175, 176, 255}) {
            boolean isNone = c == 0 || c == 47;
            for (String name : new String[] {"" + c, c + "mn", "m" + c + "n", "mn" + c}) {
                added += isNone ? 0 : 1;
                due("add of a name with byte " + (int) c, Due.add(x, name, 1, 0, 0, 1), isNone ? BAD : added);
            }
        }
        due("add of a name of 256 bytes, the last 0", Due.add(x, Due.repeat('a', 255) + "\0", 1, 0, 0, 1), BAD);
        due("add of a name of 256 bytes, the last 47", Due.add(x, Due.repeat('a', 255) + "/", 1, 0, 0, 1), BAD);
    }

    private static void terms_nameIsNotJust46Or46And46() {
        Due.sentence("Terms", "not just 46 or 46 46");
        ListingRow x = new ListingRow();
        due("46", Due.add(x, ".", 1, 0, 0, 1), BAD);
        due("46 46", Due.add(x, "..", 1, 0, 0, 1), BAD);
        String[] names = {"...", "....", ".-", "-.", "..-", ".-.", "-..", "--", "\u00ae", "\u00ae\u00ae", ".\u00ae"};
        for (int i = 0; i < names.length; i++) {
            due(names[i], Due.add(x, names[i], 1, 0, 0, 1), i + 1);
        }
    }

    private static void terms_noTwoNamesTheSame() {
        Due.sentence("Terms", "no two the same");
        ListingRow x = Rows.ofNames("a", "b", "ab");
        for (String name : new String[] {"a", "ab", "b"}) {
            due("add of the same", Due.add(x, name, 9, 9, 9, 7), THERE);
        }
        due("add of a longer one", Due.add(x, "aba", 1, 0, 0, 1), 4);
        due("add of one with another byte", Due.add(x, "ac", 1, 0, 0, 1), 5);
        due("add of one in capitals", Due.add(x, "A", 1, 0, 0, 1), 6);
        due("drop", Due.drop(x, "ab"), 5);
        due("add of the same again", Due.add(x, "ab", 1, 0, 0, 1), 6);
        due("all", x.clear(), 6);
        due("add of the same behind clear", Due.add(x, "b", 1, 0, 0, 1), 1);
    }

    private static void terms_number1To100000() {
        Due.sentence("Terms", "a NUMBER, 1 .. 100000");
        ListingRow x = new ListingRow();
        for (int number : new int[] {LEAST, LEAST + 1, -1, 0, 100001, 65536 + 100000, MOST}) {
            due("number " + number, Due.add(x, "a", number, 0, 0, 1), BAD);
        }
        due("number 1", Due.add(x, "a", 1, 0, 0, 1), 1);
        due("number 100000", Due.add(x, "b", 100000, 0, 0, 1), 2);
        x.make(0);
        due("the least", x.entry(0, 0), 1);
        due("the most", x.entry(1, 0), 100000);
    }

    private static void terms_start0To65535() {
        Due.sentence("Terms", "a START, 0 .. 65535");
        ListingRow x = new ListingRow();
        for (int start : new int[] {LEAST, -65536, -1, 65536, 65537, MOST}) {
            due("start " + start, Due.add(x, "a", 1, start, 0, 1), BAD);
        }
        due("start 0", Due.add(x, "a", 1, 0, 0, 1), 1);
        due("start 65535", Due.add(x, "b", 2, 65535, 0, 1), 2);
        x.make(0);
        due("the least", x.entry(0, 3), 0);
        due("the most", x.entry(1, 3), 65535);
    }

    private static void terms_place0To8191() {
        Due.sentence("Terms", "a PLACE, 0 .. 8191");
        ListingRow x = new ListingRow();
        for (int place : new int[] {LEAST, -8192, -1, 8192, 65536, MOST}) {
            due("place " + place, Due.add(x, "a", 1, 0, place, 1), BAD);
        }
        due("place 0", Due.add(x, "a", 1, 0, 0, 1), 1);
        due("place 8191", Due.add(x, "b", 2, 0, 8191, 1), 2);
        x.make(0);
        due("the least", x.entry(0, 2), 0);
        due("the most", x.entry(1, 2), 8191);
    }

    private static void terms_kind1To7() {
        Due.sentence("Terms", "a KIND, 1 .. 7");
        ListingRow x = new ListingRow();
        for (int kind : new int[] {LEAST, LEAST + 1, -1, 0, 8, 257, 65537, MOST}) {
            due("kind " + kind, Due.add(x, "a", 1, 0, 0, kind), BAD);
        }
        due("kind 1", Due.add(x, "a", 1, 0, 0, 1), 1);
        due("kind 7", Due.add(x, "b", 2, 0, 0, 7), 2);
        x.make(0);
        due("the least", x.entry(0, 1), 1);
        due("the most", x.entry(1, 1), 7);
    }

    /** The names are given in their order; they are added in another one. */
    private static void dueOrder(String... names) {
        ListingRow x = new ListingRow();
        for (int k = 0; k < names.length; k++) {
            // Five has no divisor in common with the lengths that are used, so each name comes once.
            int i = 5 * k % names.length;
            Due.add(x, names[i], 1 + i, 0, 0, 1);
        }
        x.make(0);
        due("check", x.check(), names.length);
        for (int i = 0; i < names.length; i++) {
            due("number of entry " + i, x.entry(i, 0), 1 + i);
            due("find of entry " + i, Due.find(x, names[i]), 1 + i);
            due("entries up to it", x.passed(), 1 + i);
        }
    }

    private static void terms_orderByNamesBytesWithoutSign() {
        Due.sentence("Terms", "They are in order by their names' bytes (without sign");
        dueOrder("\1", "a", "b", "\u007f", "\u0080", "\u00fe", "\u00ff");
        dueOrder("m\1", "m.", "m0", "m\u007f", "m\u0080", "m\u00ff");
        String begin = Due.repeat('m', 255);
        dueOrder(begin + "\1", begin + "\u007f", begin + "\u0080", begin + "\u00ff");
    }

    private static void terms_orderABeginningBefore() {
        Due.sentence("Terms", "a beginning of another one before it");
        dueOrder("a", "a\1", "aa", "aaa", "a\u00ff", "b", "b\1");
        dueOrder(Due.repeat('a', 255), Due.repeat('a', 256), "b", Due.repeat('b', 256));
    }

    private static void terms_knownByTheLatestEntryThatGotIt() {
        Due.sentence("Terms", "Number k is KNOWN when it is that of an entry, by the latest one that got it");
        ListingRow x = new ListingRow();
        Due.add(x, "a", 10, 1, 2, 3);
        x.make(0);
        due("check by the only one", x.check(), 1);
        due("add with the next number", Due.add(x, "b", 11, 9, 9, 7), 2);
        due("add with the one before", Due.add(x, "c", 9, 9, 9, 7), 3);
        due("check by the only one still", x.check(), 1);
        due("add of a bad number", Due.add(x, "d", 10, 1, 2, 8), BAD);
        due("add of a bad name", Due.add(x, "", 10, 1, 2, 4), BAD);
        due("add of one that is there", Due.add(x, "a", 10, 1, 2, 4), THERE);
        due("check: refused ones get no number", x.check(), 1);
        due("add with another start", Due.add(x, "d", 10, 2, 2, 3), 4);
        due("check by the latest one's start", x.check(), NONE);
        due("add as the first one", Due.add(x, "e", 10, 1, 2, 3), 5);
        due("check by the latest one", x.check(), 1);
        due("add with another place", Due.add(x, "f", 10, 1, 1, 3), 6);
        due("check by the latest one's place", x.check(), NONE);
        due("add as the first one", Due.add(x, "g", 10, 1, 2, 3), 7);
        due("add with another kind", Due.add(x, "h", 10, 1, 2, 4), 8);
        due("check by the latest one's kind", x.check(), NONE);
    }

    private static void terms_knownAlsoWhenTheEntryIsThereNoMore() {
        Due.sentence("Terms", "(also when that entry is there no more)");
        ListingRow x = new ListingRow();
        Due.add(x, "a", 10, 1, 2, 3);
        x.make(0);
        Due.drop(x, "a");
        due("check behind drop", x.check(), 1);
        Due.add(x, "b", 10, 1, 2, 4);
        due("check by the latest one", x.check(), NONE);
        x.clear();
        due("check by the latest one, behind clear", x.check(), NONE);
        Due.add(x, "c", 10, 1, 2, 3);
        x.clear();
        due("check behind clear", x.check(), 1);
        ListingRow y = new ListingRow();
        Due.add(y, "a", 10, 1, 2, 3);
        y.make(0);
        Due.add(y, "b", 10, 1, 2, 4);
        Due.drop(y, "b");
        due("check: the entry before does not get it back", y.check(), NONE);
    }

    /** From the begin on, a listing is made of one header, or of two with an index of the given place and start. */
    private static void dueSecondPiece(ListingRow x, int begin, int place, int start) {
        String what = "begin " + begin + ": ";
        x.make(begin);
        due(what + "headers", x.size(1), place < 0 ? 1 : 2);
        due(what + "indexes", x.size(2), place < 0 ? 0 : 1);
        due(what + "index's place", x.index(0, 0), place < 0 ? NONE : place);
        due(what + "index's start", x.index(0, 1), place < 0 ? NONE : start);
        due(what + "check", x.check() > 0 ? 1 : 0, 1);
    }

    private static void terms_piecesOf8192Bytes() {
        Due.sentence("Terms", "THE ROW of directories is cut in pieces of 8192 bytes");
        // The second entry would begin 21 bytes behind the begin.
        ListingRow x = Rows.ofNames("a", "b");
        for (int p = 1; p <= 4; p++) {
            dueSecondPiece(x, 8192 * p - 22, -1, 0);
            dueSecondPiece(x, 8192 * p - 21, 21, 8194 * p);
            dueSecondPiece(x, 8192 * p - 1, 21, 8194 * p);
            dueSecondPiece(x, 8192 * p, -1, 0);
        }
    }

    private static void terms_pieceStarts8194() {
        Due.sentence("Terms", "piece p has the start 8194 p");
        // The last piece that a listing of 512 calls comes to begins at 40960; the fifth entry here begins there.
        ListingRow x = Rows.ofNames(Due.repeat('a', 256), Due.repeat('b', 256), Due.repeat('c', 256),
            Due.repeat('d', 148), "e");
        dueSecondPiece(x, 39999, -1, 0);
        dueSecondPiece(x, 40000, 960, 8194 * 5);
        dueSecondPiece(x, 8192 - 960, 960, 8194);
        due("set of the start of 8192 bytes", Due.set(x, 0, 960, 8192, "e"), 0);
        due("check with it", x.check(), NONE);
        due("set of the start of the piece", Due.set(x, 0, 960, 8194, "e"), 0);
        due("check with it", x.check(), 5);
    }

    private static void terms_begin0To40000AtFirst0() {
        Due.sentence("Terms", "its BEGIN, 0 .. 40000, at first 0");
        ListingRow x = Rows.ofNames("a");
        due("begin at first", x.size(3), 0);
        due("make at 40000", x.make(40000), 21);
        due("begin", x.size(3), 40000);
        for (int begin : new int[] {LEAST, -40000, -1, 40001, 65536, MOST}) {
            due("make at " + begin, x.make(begin), BAD);
            due("begin", x.size(3), 40000);
        }
        due("make at 0", x.make(0), 21);
        due("begin", x.size(3), 0);
    }

    private static void terms_headerTellsItsEntriesLess1() {
        Due.sentence("Terms", "u4 the entries that follow, less 1 (0 .. 255)");
        ListingRow x = Rows.ofNames("a");
        x.make(0);
        due("one entry less 1", x.bytes(0), 0);
        Due.add(x, "b", 2, 0, 0, 1);
        x.make(0);
        due("two entries less 1", x.bytes(0), 1);
        ListingRow y = new ListingRow();
        for (int i = 0; i < 255; i++) {
            Due.add(y, "n" + (100 + i), 1, 0, 0, 1);
        }
        due("make of 255 entries, the most of 512 calls", y.make(0), 12 + 255 * 12);
        due("255 entries less 1", y.bytes(0), 254);
    }

    private static String madeOfTwo(int first, int second) {
        ListingRow x = new ListingRow();
        Due.add(x, "a", first, 0, 0, 1);
        Due.add(x, "b", second, 0, 0, 1);
        x.make(0);
        due("check", x.check(), 2);
        due("the second number", x.entry(1, 0), second);
        return Due.hex(x).substring(42);
    }

    private static void terms_differenceWithASign() {
        Due.sentence("Terms", "u2 (with a sign, of two's complement) what its number is more than the header's");
        String end = "0100" + "0000" + "62";
        Due.due("0", madeOfTwo(5, 5), "0000" + "0000" + end);
        Due.due("1", madeOfTwo(5, 6), "0000" + "0100" + end);
        Due.due("-1", madeOfTwo(6, 5), "0000" + "ffff" + end);
        Due.due("127", madeOfTwo(1, 128), "0000" + "7f00" + end);
        Due.due("128", madeOfTwo(1, 129), "0000" + "8000" + end);
        Due.due("-128", madeOfTwo(129, 1), "0000" + "80ff" + end);
        Due.due("-129", madeOfTwo(130, 1), "0000" + "7fff" + end);
        Due.due("32767", madeOfTwo(1, 32768), "0000" + "ff7f" + end);
        Due.due("-32768", madeOfTwo(32769, 1), "0000" + "0080" + end);
        Due.due("32767 to the most", madeOfTwo(67233, 100000), "0000" + "ff7f" + end);
        Due.due("-32768 from the most", madeOfTwo(100000, 67232), "0000" + "0080" + end);
    }

    private static void terms_namesBytesLess1() {
        Due.sentence("Terms", "u2 the name's bytes less 1");
        for (int length : new int[] {1, 2, 128, 129, 255, 256}) {
            ListingRow x = Rows.ofNames(Due.repeat('a', length));
            due("make", x.make(0), 20 + length);
            due("a name of " + length + ", less 1", x.bytes(2) >> 16 & 0xffff, length - 1);
            due("check", x.check(), 1);
            due("its bytes", x.entry(0, 4), length);
        }
    }

    private static void making_headerWhenThereIsNoneYet() {
        Due.sentence("Terms, MAKING", "a new header, with its first entry's number, comes before an entry when there is none yet");
        ListingRow x = new ListingRow();
        due("make of no entry", x.make(0), 0);
        due("its headers", x.size(1), 0);
        Due.add(x, "b", 77, 0, 0, 1);
        due("make of one entry", x.make(0), 21);
        due("its headers", x.size(1), 1);
        due("the header's number", x.bytes(1), 77);
        Due.add(x, "a", 78, 0, 0, 1);
        due("make of two", x.make(0), 30);
        due("their headers", x.size(1), 1);
        due("the header's number", x.bytes(1) & 0xffffffffL, 78);
    }

    private static void dueHeadersOf(String what, int[][] numbersAndStarts, int want) {
        ListingRow x = new ListingRow();
        for (int i = 0; i < numbersAndStarts.length; i++) {
            Due.add(x, "n" + i, numbersAndStarts[i][0], numbersAndStarts[i][1], 0, 1);
        }
        due("make of " + what, x.make(0), 10 * numbersAndStarts.length + 12 * want);
        due("headers of " + what, x.size(1), want);
        due("check of " + what, x.check(), numbersAndStarts.length);
    }

    private static void making_headerWhenTheStartIsAnotherOne() {
        Due.sentence("Terms, MAKING", "or the entry's start is another one");
        dueHeadersOf("one start", new int[][] {{1, 0}, {2, 0}, {3, 0}}, 1);
        dueHeadersOf("one start, the most", new int[][] {{1, 65535}, {2, 65535}}, 1);
        dueHeadersOf("the next start", new int[][] {{1, 0}, {2, 1}}, 2);
        dueHeadersOf("the start before", new int[][] {{1, 65535}, {2, 65534}}, 2);
        dueHeadersOf("least and most", new int[][] {{1, 0}, {2, 65535}}, 2);
        dueHeadersOf("one start with another one between", new int[][] {{1, 7}, {2, 8}, {3, 7}, {4, 7}}, 3);
    }

    private static void making_headerWhenTheDifferenceIsTooLarge() {
        Due.sentence("Terms, MAKING", "or its number less the header's is not -32768 .. 32767");
        dueHeadersOf("32767", new int[][] {{40000, 0}, {72767, 0}}, 1);
        dueHeadersOf("32768", new int[][] {{40000, 0}, {72768, 0}}, 2);
        dueHeadersOf("-32768", new int[][] {{40000, 0}, {7232, 0}}, 1);
        dueHeadersOf("-32769", new int[][] {{40000, 0}, {7231, 0}}, 2);
        dueHeadersOf("65536", new int[][] {{1, 0}, {65537, 0}}, 2);
        dueHeadersOf("99999", new int[][] {{1, 0}, {100000, 0}}, 2);
        dueHeadersOf("-99999", new int[][] {{100000, 0}, {1, 0}}, 2);
        dueHeadersOf("both ends, from the header", new int[][] {{40000, 0}, {72767, 0}, {7232, 0}}, 1);
        dueHeadersOf("32768 from the header, 1 from the entry before", new int[][] {{1, 0}, {32768, 0}, {32769, 0}}, 2);
        dueHeadersOf("32767 from the second header", new int[][] {{1, 0}, {32769, 0}, {65536, 0}}, 2);
        dueHeadersOf("32768 from the second header", new int[][] {{1, 0}, {32769, 0}, {65537, 0}}, 3);
    }

    private static void making_headerWhenTheEntryWouldBeginInAnotherPiece() {
        Due.sentence("Terms, MAKING", "or the entry would begin in another piece of the row than the header's first byte");
        // Under one header, the entries would begin at 12, 21 and 30.
        ListingRow x = Rows.ofNames("a", "b", "c");
        dueSecondPiece(x, 8192 - 39, -1, 0);
        dueSecondPiece(x, 8192 - 31, -1, 0);
        dueSecondPiece(x, 8192 - 30, 30, 8194);
        dueSecondPiece(x, 8192 - 22, 30, 8194);
        dueSecondPiece(x, 8192 - 21, 21, 8194);
        dueSecondPiece(x, 8192 - 20, 21, 8194);
        dueSecondPiece(x, 8192, -1, 0);
        // An entry that would begin in the piece stays in it, however little of it is there.
        ListingRow y = Rows.ofNames("a", "b" + Due.repeat('y', 255), "c");
        dueSecondPiece(y, 8192 - 22, 21 + 264, 8194);
        dueSecondPiece(y, 8192 - 21, 21, 8194);
    }

    private static void making_noHeaderBeforeAHeaderHasAnEntry() {
        Due.sentence("Terms, MAKING", "(and the header has an entry)");
        ListingRow x = Rows.ofNames("a");
        for (int before : new int[] {0, 1, 2, 11, 12, 13, 20, 21}) {
            due("make " + before + " bytes before a piece", x.make(8192 - before), 21);
            due("its headers", x.size(1), 1);
            due("its indexes", x.size(2), 0);
            due("check", x.check(), 1);
        }
        // The first entry stays under its header; the second one is in that entry's piece, not in the header's.
        ListingRow y = Rows.ofNames("a", "b", "c");
        for (int before = 1; before <= 21; before++) {
            dueSecondPiece(y, 8192 - before, 21, 8194);
            due("its bytes", y.size(0), 51);
        }
    }

    private static void making_noIndexOfTheFirstHeader() {
        Due.sentence("Terms, MAKING", "INDEXES are of all headers but the first one");
        ListingRow x = Rows.ofNames("a");
        for (int begin : new int[] {0, 1, 8191, 8192, 8193, 16384, 32768, 40000}) {
            due("make at " + begin, x.make(begin), 21);
            due("indexes at " + begin, x.size(2), 0);
            due("index at " + begin, x.index(0, 0), NONE);
            due("check at " + begin, x.check(), 1);
        }
    }

    private static void dueIndexOf(ListingRow x, int begin, int place) {
        due("make at " + begin, x.make(begin), 63);
        due("headers at " + begin, x.size(1), 3);
        due("indexes at " + begin, x.size(2), place < 0 ? 0 : 1);
        due("index at " + begin, x.index(0, 0), place < 0 ? NONE : place);
        due("check at " + begin, x.check(), 3);
    }

    private static void making_indexWhenTheFirstByteIsInAnotherPiece() {
        Due.sentence("Terms, MAKING", "whose first byte is in another piece than that of the header before");
        // Starts make the headers, at 0, 21 and 42.
        ListingRow x = Rows.threeHeaders();
        for (int p = 1; p <= 4; p++) {
            dueIndexOf(x, 8192 * p - 43, -1);
            dueIndexOf(x, 8192 * p - 42, 42);
            dueIndexOf(x, 8192 * p - 22, 42);
            dueIndexOf(x, 8192 * p - 21, 21);
            dueIndexOf(x, 8192 * p - 1, 21);
            dueIndexOf(x, 8192 * p, -1);
        }
    }

    private static void making_indexTellsPlaceStartAndName() {
        Due.sentence("Terms, MAKING", "the header's place in the listing, that piece's start, the name of the header's first entry");
        for (int length : new int[] {1, 256}) {
            ListingRow x = Rows.ofNames("a", Due.repeat('b', length), "c");
            x.make(8192 - 21);
            due("place", x.index(0, 0), 21);
            due("start", x.index(0, 1), 8194);
            due("name's bytes", x.index(0, 2), length);
            due("check", x.check(), 3);
            due("find of it", Due.find(x, Due.repeat('b', length)), 2);
            due("entries from the index on", x.passed(), 1);
        }
    }

    private static void dueCheck(String what, String hex, int want) {
        ListingRow x = Rows.listed(hex);
        due("check of " + what, x.check(), want);
        due("first entry of " + what, x.entry(0, 0), want > 0 ? 10 : NONE);
    }

    private static void right_endsBehindTheLastEntryThatItsHeaderTells() {
        Due.sentence("Terms, RIGHT", "if it is one of headers and entries that ends behind an entry, the last one that its header tells");
        String two = HEADER_OF_TWO + ENTRY + "61" + ENTRY + "62";
        ListingRow x = Rows.listed(two + HEADER + ENTRY + "63");
        for (int n = 51; n >= 0; n--) {
            x.cut(n);
            due("check of " + n + " bytes", x.check(), n == 51 ? 3 : n == 30 ? 2 : n == 0 ? 0 : NONE);
        }
        dueCheck("an entry too much", HEADER + ENTRY + "61" + ENTRY + "62", NONE);
        dueCheck("an entry too few", HEADER_OF_TWO + ENTRY + "61", NONE);
        dueCheck("an entry too few before a header", HEADER_OF_TWO + ENTRY + "61" + HEADER + ENTRY + "62", NONE);
        dueCheck("a byte too much", two + "00", NONE);
        dueCheck("a name that ends behind the listing", HEADER + "07000000" + "03000100" + "61", NONE);
        dueCheck("a name that ends with the listing", HEADER + "07000000" + "03000100" + "6161", 1);
    }

    private static void right_headerTells0To255() {
        Due.sentence("Terms", "u4 the entries that follow, less 1 (0 .. 255)");
        dueCheck("0", "00000000" + HEADER.substring(8) + ENTRY + "61", 1);
        for (String count : new String[] {"00010000", "00000100", "00000001", "00000080", "ffffffff"}) {
            dueCheck(count, count + HEADER.substring(8) + ENTRY + "61", NONE);
        }
        ListingRow x = new ListingRow();
        for (int i = 0; i < 250; i++) {
            Due.add(x, "n" + (100 + i), 1, 0, 0, 1);
        }
        x.make(0);
        due("patch of entries less 1", x.patch(0, 248), 249);
        due("check of an entry too much", x.check(), NONE);
        due("patch of entries less 1", x.patch(0, 250), 248);
        due("check of an entry too few", x.check(), NONE);
        due("patch of entries less 1", x.patch(0, 249), 250);
        due("check of 250 entries", x.check(), 250);
        due("patch of the second byte", x.patch(1, 1), 0);
        due("check of 256 entries more", x.check(), NONE);
    }

    private static void right_namesOf1To256Bytes() {
        Due.sentence("Terms, RIGHT", "names are as said");
        ListingRow x = Rows.ofNames(Due.repeat('n', 256), Due.repeat('o', 20));
        due("make", x.make(0), 304);
        // The second entry makes room for one more byte of the first one's name.
        x.patch(0, 0);
        x.patch(276, 'n');
        x.cut(277);
        due("check of a byte behind a name of 256", x.check(), NONE);
        x.patch(18, 0);
        x.patch(19, 1);
        due("check of a name of 257", x.check(), NONE);
        x.patch(18, 255);
        x.patch(19, 0);
        x.cut(276);
        due("check of a name of 256", x.check(), 1);
        x.patch(18, 0);
        x.cut(21);
        due("check of a name of 1", x.check(), 1);
        x.cut(20);
        due("check of a name of 0", x.check(), NONE);
    }

    private static void right_namesWithout0And47() {
        Due.sentence("Terms, RIGHT", "names are as said");
        String entryOfThree = ENTRY.substring(0, 12) + "0200";
        for (String taken : new String[] {"01", "2d", "30", "7f", "80", "af", "b0", "ff"}) {
            dueCheck("a name " + taken, HEADER + ENTRY + taken, 1);
            dueCheck("a name of three with " + taken, HEADER + entryOfThree + "6d" + taken + "6e", 1);
        }
        for (String refused : new String[] {"00", "2f"}) {
            dueCheck("a name " + refused, HEADER + ENTRY + refused, NONE);
            dueCheck("a name that begins with " + refused, HEADER + entryOfThree + refused + "6d6e", NONE);
            dueCheck("a name with " + refused, HEADER + entryOfThree + "6d" + refused + "6e", NONE);
            dueCheck("a name that ends with " + refused, HEADER + entryOfThree + "6d6e" + refused, NONE);
            dueCheck("a second name " + refused, HEADER_OF_TWO + ENTRY + "01" + entryOfThree + "6d6e" + refused, NONE);
        }
    }

    private static void right_namesNotJust46Or46And46() {
        Due.sentence("Terms, RIGHT", "names are as said");
        String before = HEADER + ENTRY.substring(0, 12);
        dueCheck("46", before + "0000" + "2e", NONE);
        dueCheck("46 46", before + "0100" + "2e2e", NONE);
        dueCheck("46 46 46", before + "0200" + "2e2e2e", 1);
        dueCheck("46 97", before + "0100" + "2e61", 1);
        dueCheck("97 46", before + "0100" + "612e", 1);
        dueCheck("174", before + "0000" + "ae", 1);
    }

    private static void right_namesInOrderNoneTwice() {
        Due.sentence("Terms, RIGHT", "and in order, none twice");
        String entryOfTwo = ENTRY.substring(0, 12) + "0100";
        for (String between : new String[] {"", HEADER}) {
            // Two entries under one header, or each under its own.
            String header = between.isEmpty() ? HEADER_OF_TWO : HEADER;
            String a = header + ENTRY + "61" + between;
            dueCheck("a, b", a + ENTRY + "62", 2);
            dueCheck("a, a", a + ENTRY + "61", NONE);
            dueCheck("a, 96", a + ENTRY + "60", NONE);
            dueCheck("127, 128", header + ENTRY + "7f" + between + ENTRY + "80", 2);
            dueCheck("128, 127", header + ENTRY + "80" + between + ENTRY + "7f", NONE);
            dueCheck("a, a 1", a + entryOfTwo + "6101", 2);
            dueCheck("a 1, a", header + entryOfTwo + "6101" + between + ENTRY + "61", NONE);
            dueCheck("a a, b", header + entryOfTwo + "6161" + between + ENTRY + "62", 2);
            dueCheck("a a, a a", header + entryOfTwo + "6161" + between + entryOfTwo + "6161", NONE);
            dueCheck("a a, a b", header + entryOfTwo + "6161" + between + entryOfTwo + "6162", 2);
        }
        dueCheck("a, c, b", "02" + HEADER.substring(2) + ENTRY + "61" + ENTRY + "63" + ENTRY + "62", NONE);
        dueCheck("a, b, c", "02" + HEADER.substring(2) + ENTRY + "61" + ENTRY + "62" + ENTRY + "63", 3);
    }

    /** An entry of start 5, place 7 and kind 3, that a row which knows one number may lead to. */
    private static void dueNumber(int known, String headerNumber, String difference, int want) {
        String hex = "00000000" + "05000000" + headerNumber + "0700" + difference + "0300" + "0000" + "61";
        ListingRow x = Rows.listed(hex, known, 5, 7, 3);
        String what = headerNumber + " and " + difference + ", where " + known + " is known";
        due("check of " + what, x.check(), want);
        due("number of " + what, x.entry(0, 0), want == 1 ? known : NONE);
    }

    private static void right_numberIsAKnownOne() {
        Due.sentence("Terms, RIGHT", "the header's number and the difference together are a known one");
        dueNumber(1, "01000000", "0000", 1);
        dueNumber(1, "00000000", "0100", 1);
        dueNumber(1, "02000000", "ffff", 1);
        dueNumber(1, "01800000", "0080", 1);
        dueNumber(1, "02800000", "0080", NONE);
        dueNumber(1, "00800000", "0080", NONE);
        dueNumber(1, "00000000", "0000", NONE);
        dueNumber(1, "02000000", "0000", NONE);
        dueNumber(32767, "00000000", "ff7f", 1);
        dueNumber(32768, "00000000", "0080", NONE);
        dueNumber(65535, "00000000", "ffff", NONE);
        dueNumber(100000, "a0860100", "0000", 1);
        dueNumber(100000, "a1060100", "ff7f", 1);
        dueNumber(100000, "a0060200", "0080", 1);
        dueNumber(100000, "a0860100", "0100", NONE);
        dueNumber(100000, "a0860100", "ffff", NONE);
        dueNumber(100000, "a1860100", "0000", NONE);
        dueNumber(34464, "a0860100", "0000", NONE);
    }

    private static void right_nothingRunsOver() {
        Due.sentence("Terms, RIGHT", "(nothing running over)");
        dueNumber(1, "ffffffff", "0200", NONE);
        dueNumber(1, "0280ffff", "ff7f", NONE);
        dueNumber(1, "01000080", "0000", NONE);
        dueNumber(1, "01000100", "0000", NONE);
        dueNumber(65535, "00000000", "ffff", NONE);
        dueNumber(65535, "00000100", "ffff", 1);
        dueNumber(1, "0180ffff", "0080", NONE);
        dueNumber(1, "ffffffff", "feff", NONE);
    }

    private static void right_startPlaceAndKindAreThatOnes() {
        Due.sentence("Terms, RIGHT", "start, place and kind are that one's");
        int[][] told = {{5, 7, 3}, {0, 0, 1}, {65535, 8191, 7}};
        // Each byte of the start (4 .. 7), the place (12, 13) and the kind (16, 17) is changed and put back.
        int[] bytes = {4, 5, 6, 7, 12, 13, 16, 17};
        for (int[] t : told) {
            ListingRow x = new ListingRow();
            Due.add(x, "a", 10, t[0], t[1], t[2]);
            x.make(0);
            due("check", x.check(), 1);
            for (int i : bytes) {
                for (int change : new int[] {1, -1, 128}) {
                    int was = x.patch(i, 0);
                    x.patch(i, was + change);
                    due("check with byte " + i + " changed by " + change, x.check(), NONE);
                    x.patch(i, was);
                    due("check with byte " + i + " as it was", x.check(), 1);
                }
            }
        }
    }

    private static void dueCheckWithIndex(String what, int place, int start, String name, int want) {
        ListingRow x = Rows.threeHeaders();
        due("check before " + what, x.check(), 3);
        due("set of " + what, Due.set(x, 0, place, start, name), 0);
        due("check with " + what, x.check(), want);
        due("entry with " + what, x.entry(2, 0), want == NONE ? NONE : 3);
    }

    private static void right_indexIsOfAHeaderOtherThanTheFirst() {
        Due.sentence("Terms, RIGHT", "each is that of a header other than the first one");
        dueCheckWithIndex("the first header", 0, 0, "a", NONE);
        dueCheckWithIndex("the second header", 21, 8194, "b", 3);
        dueCheckWithIndex("the third header", 42, 8194, "c", 3);
        for (int place : new int[] {LEAST, -21, -1, 1, 12, 20, 22, 33, 41, 43, 62, 63, 64, 65536 + 21, MOST}) {
            dueCheckWithIndex("place " + place + " with b", place, 8194, "b", NONE);
            dueCheckWithIndex("place " + place + " with c", place, 8194, "c", NONE);
        }
        ListingRow x = Rows.threeHeaders();
        x.cut(42);
        due("check of a listing with the index's header", x.check(), 2);
        x.cut(21);
        due("check of a listing without it", x.check(), NONE);
    }

    private static void right_indexStartIsThatOfThePiece() {
        Due.sentence("Terms, RIGHT", "the start is that of the piece with the header's first byte");
        dueCheckWithIndex("the piece's start", 21, 8194, "b", 3);
        for (int start : new int[] {LEAST, -8194, 0, 1, 8192, 8193, 8195, 16388, 65536 + 8194, MOST}) {
            dueCheckWithIndex("start " + start, 21, start, "b", NONE);
            dueCheckWithIndex("start " + start + " of the third header", 42, start, "c", NONE);
        }
        ListingRow x = Rows.threeHeaders();
        x.make(8192 - 42);
        due("check", x.check(), 3);
        due("set of a header with its first byte in the piece before", Due.set(x, 0, 21, 0, "b"), 0);
        due("check with it", x.check(), 3);
        due("set of it with the next piece's start", Due.set(x, 0, 21, 8194, "b"), 0);
        due("check with it", x.check(), NONE);
    }

    private static void right_indexNameIsThatOfTheFirstEntry() {
        Due.sentence("Terms, RIGHT", "the name that of its first entry");
        dueCheckWithIndex("the name", 21, 8194, "b", 3);
        for (String name : new String[] {"a", "c", "B", "bb", "b\0", "\0", "/", "\u00e2", Due.repeat('b', 256)}) {
            dueCheckWithIndex("another name", 21, 8194, name, NONE);
        }
        ListingRow x = Rows.ofNames("a", "b", "c");
        x.make(8192 - 21);
        due("check", x.check(), 3);
        Due.set(x, 0, 21, 8194, "c");
        due("check with the name of its second entry", x.check(), NONE);
        Due.set(x, 0, 21, 8194, "b");
        due("check with that of its first one", x.check(), 3);
        String name = Due.repeat('b', 256);
        ListingRow y = Rows.ofNames("a", name);
        y.make(8192 - 21);
        due("check with a name of 256 bytes", y.check(), 2);
        Due.set(y, 0, 21, 8194, name.substring(1));
        due("check with 255 of them", y.check(), NONE);
        Due.set(y, 0, 21, 8194, name.substring(1) + "c");
        due("check with another last byte", y.check(), NONE);
        Due.set(y, 0, 21, 8194, name);
        due("check as it was", y.check(), 2);
    }

    private static void right_withoutBytesIfThereAreNoIndexes() {
        Due.sentence("Terms, RIGHT", "Without bytes it is right, if there are no indexes");
        due("check of a new object", new ListingRow().check(), 0);
        ListingRow x = Rows.ofNames("a", "b");
        due("check before make", x.check(), 0);
        x.make(0);
        x.cut(0);
        due("check without bytes and indexes", x.check(), 0);
        x.make(8192 - 21);
        due("indexes", x.size(2), 1);
        x.cut(0);
        due("indexes without bytes", x.size(2), 1);
        due("check without bytes, with an index", x.check(), NONE);
        Due.set(x, 0, 0, 0, "a");
        due("check without bytes, with an index at 0", x.check(), NONE);
        x.clear();
        due("make without entries", x.make(8192 - 21), 0);
        due("check without bytes and indexes", x.check(), 0);
    }
}
