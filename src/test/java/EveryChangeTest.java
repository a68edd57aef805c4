import java.util.List;

/**
 * Small listings with every change of one byte, one number, one index and the begin, every cut and every
 * short name that is looked for: each answer compared with that of the model.
 */
public final class EveryChangeTest {
    private static final int CALLS_OF_AN_OBJECT = 512;
    /** More than the calls between two looks at how many are left. */
    private static final int CALLS_TO_SPARE = 130;
    /** The second header's first byte is in the first one's piece, its entry is not: the third one has the index. */
    private static final int BEGIN = 8192 - 45;

    private static ListingRow row;
    private static Model model;
    private static int calls;
    private static int right = 0;
    private static int wrong = 0;

    public static void main(String[] args) {
        everyByte();
        everyNumberOfTwoBytes();
        everyCut();
        everyIndex();
        everyBegin();
        everyShortName();
        System.out.println(right + " of the changed listings are right, " + wrong + " are not");
        Due.due("right listings are met", right > 1000 ? 1 : 0, 1);
        Due.due("wrong listings are met", wrong > 1000 ? 1 : 0, 1);
        Due.end();
    }

    private static void due(String call, long got, long want) {
        calls++;
        Due.due(call, got, want);
    }

    /** Numbers 5, 6, 7, 12 and 261 are known alike, so that some changes of a number lead from one to another. */
    private static void begin() {
        row = new ListingRow();
        model = new Model();
        calls = 0;
        for (int number : new int[] {7, 12, 261}) {
            add("x", number, 0);
            feed("x");
            due("drop", row.drop(), model.drop());
        }
        add(".a", 5, 0);
        add("b", 6, 0);
        add("b.", 261, 0);
        add("b.c", 300, 1);
        add("\u0080", 301, 1);
        make(BEGIN);
        due("one index", row.size(2), 1);
    }

    /** Goes on with a new object when this one may not last for the calls to come. */
    private static void beginAnewIfUsed() {
        if (calls > CALLS_OF_AN_OBJECT - CALLS_TO_SPARE) {
            Due.due("no object has more calls than the document allows", calls <= CALLS_OF_AN_OBJECT ? 1 : 0, 1);
            begin();
        }
    }

    private static void feed(String name) {
        for (int i = 0; i < name.length(); i++) {
            due("feed", row.feed(name.charAt(i), 1), model.feed(name.charAt(i), 1));
        }
    }

    private static void add(String name, int number, int start) {
        feed(name);
        due("add of " + number, row.add(number, start, 40, 2), model.add(number, start, 40, 2));
    }

    private static void make(int begin) {
        due("make(" + begin + ")", row.make(begin), model.make(begin));
    }

    private static void patch(int i, int b) {
        due("patch(" + i + ", " + b + ")", row.patch(i, b), model.patch(i, b));
    }

    private static void set(int i, int place, int start, String name) {
        feed(name);
        due("set(" + i + ", " + place + ", " + start + ") to " + name, row.set(i, place, start),
            model.set(i, place, start));
    }

    private static void find(String name) {
        feed(name);
        due("find of " + name, row.find(), model.find());
        due("passed after find of " + name, row.passed(), model.passed);
    }

    private static void check(String change) {
        List<Model.Read> entries = model.right();
        due("check with " + change, row.check(), entries == null ? ListingRow.NONE : entries.size());
        if (entries == null) {
            wrong++;
        } else {
            right++;
            lookAtEntries(change, entries.size());
        }
    }

    private static void lookAtEntries(String change, int entries) {
        for (int i = 0; i <= entries; i++) {
            for (int what = 0; what < 5; what++) {
                due("entry(" + i + ", " + what + ") with " + change, row.entry(i, what), model.entry(i, what));
            }
        }
        find("b");
        find("b.c");
    }

    private static void everyByte() {
        begin();
        int length = model.bytes.length;
        for (int i = 0; i < length; i++) {
            for (int b = 0; b < 256; b++) {
                int was = model.bytes[i];
                patch(i, b);
                check("byte " + i + " being " + b);
                patch(i, was);
                beginAnewIfUsed();
            }
        }
    }

    /** The four numbers of an entry that has others before and behind it, and the halves of its header's. */
    private static void everyNumberOfTwoBytes() {
        begin();
        int entry = 12 + 10;
        for (int at : new int[] {0, 2, 4, 6, 8, 10, entry, entry + 2, entry + 4, entry + 6}) {
            for (int value = 0; value < 65536; value++) {
                int low = model.bytes[at];
                int high = model.bytes[at + 1];
                patch(at, value);
                patch(at + 1, value >> 8);
                check("bytes " + at + " and " + (at + 1) + " being " + value);
                patch(at, low);
                patch(at + 1, high);
                beginAnewIfUsed();
            }
        }
    }

    private static void everyCut() {
        begin();
        for (int n = -2; n <= model.bytes.length + 2; n++) {
            due("cut(" + n + ")", row.cut(n), model.cut(n));
            check("a cut at " + n);
            lookAtListing("a cut at " + n);
            make(n % 2 == 0 ? BEGIN : 0);
            check("a listing made after a cut at " + n);
            beginAnewIfUsed();
        }
    }

    private static void lookAtListing(String change) {
        for (int what = 0; what < 4; what++) {
            due("size(" + what + ") with " + change, row.size(what), model.size(what));
        }
        for (int i = -1; i <= model.bytes.length / 8 + 1; i++) {
            due("bytes(" + i + ") with " + change, row.bytes(i), model.bytes(i));
        }
        for (int i = -1; i <= model.indexes.size(); i++) {
            for (int what = 0; what < 3; what++) {
                due("index(" + i + ", " + what + ") with " + change, row.index(i, what), model.index(i, what));
            }
        }
    }

    private static void everyIndex() {
        begin();
        for (String name : new String[] {".a", "b", "b.", "b.c", "b.cc", "b.b", "\u0080", "\0", "/", ".", ".."}) {
            for (int start : new int[] {-8194, -1, 0, 1, 8192, 8193, 8194, 8195, 16388, 8194 + 65536}) {
                for (int place = -2; place <= model.bytes.length + 2; place++) {
                    set(0, place, start, name);
                    check("the index at " + place + " with " + start + " and " + name);
                    beginAnewIfUsed();
                }
            }
        }
    }

    private static void everyBegin() {
        begin();
        for (int begin = -2; begin <= 40002; begin++) {
            make(begin);
            check("a begin of " + begin);
            lookAtListing("a begin of " + begin);
            beginAnewIfUsed();
        }
    }

    private static void everyShortName() {
        begin();
        find("");
        for (char first = 0; first < 256; first++) {
            find(String.valueOf(first));
            beginAnewIfUsed();
            for (char second = 0; second < 256; second++) {
                find(String.valueOf(first) + second);
                beginAnewIfUsed();
            }
        }
    }
}
