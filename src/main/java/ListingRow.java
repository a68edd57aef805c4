import java.util.ArrayList;
import java.util.Arrays;

/**
 * The listing of a directory in the published compressed read-only form: entries in order under
 * headers that tell what they have in common, indexes to the headers where pieces of the row
 * begin, and a check of any bytes that may be a listing.
 */
public final class ListingRow {
    public static final int BAD = -1, NONE = -2, THERE = -3, FULL = -4;

    private static final int MOST_TAPE_BYTES = 300;
    private static final int MOST_FED_BYTES = 8;
    private static final int MOST_NAME_BYTES = 256;
    private static final int MOST_ENTRIES = 600;
    private static final int MOST_KNOWN = 1500;
    private static final int MOST_NUMBER = 100000;
    private static final int MOST_START = 65535;
    private static final int MOST_PLACE = 8191;
    private static final int MOST_KIND = 7;
    private static final int MOST_BEGIN = 40000;
    private static final int MOST_LISTING_BYTES = 65536;
    private static final int MOST_UNDER_HEADER = 256;
    private static final int LEAST_DIFFERENCE = -32768;
    private static final int MOST_DIFFERENCE = 32767;
    private static final int HEADER_BYTES = 12;
    private static final int ENTRY_BYTES = 8;
    private static final int PIECE_BYTES = 8192;
    private static final int PIECE_START_STEP = 8194;

    private final Tape tape;
    private final Directory directory;
    private final Known known;
    private final Listing listing;
    private final Walk walk;
    private final Judge judge;
    private int passedEntries;

    public ListingRow() {
        tape = new Tape();
        directory = new Directory();
        known = new Known();
        listing = new Listing();
        walk = new Walk(listing);
        judge = new Judge(listing, walk, known);
        passedEntries = 0;
    }

    public int feed(long bytes, int n) {
        if (n < 1 || n > MOST_FED_BYTES) {
            return BAD;
        }
        return tape.append(bytes, n) ? tape.length : FULL;
    }

    public int add(int number, int start, int place, int kind) {
        int length = tape.useUp();
        if (!Names.isName(tape.row, 0, length) || !Entry.canHave(number, start, place, kind)) {
            return BAD;
        }
        int at = directory.placeOf(tape.row, length);
        if (directory.hasAt(at, tape.row, length)) {
            return THERE;
        }
        if (directory.isFull() || !known.hasRoomFor(number)) {
            return FULL;
        }
        Entry added = new Entry(Arrays.copyOf(tape.row, length), number, start, place, kind);
        directory.insert(at, added);
        known.learn(added);
        judge.forget();
        return directory.count();
    }

    public int drop() {
        int length = tape.useUp();
        if (!Names.isName(tape.row, 0, length)) {
            return BAD;
        }
        int at = directory.placeOf(tape.row, length);
        if (!directory.hasAt(at, tape.row, length)) {
            return NONE;
        }
        directory.removeAt(at);
        return directory.count();
    }

    public int clear() {
        int count = directory.count();
        directory.removeAll();
        return count;
    }

    public int make(int begin) {
        if (begin < 0 || begin > MOST_BEGIN) {
            return BAD;
        }
        if (!listing.write(directory, begin)) {
            return FULL;
        }
        judge.forget();
        return listing.length;
    }

    public int size(int what) {
        switch (what) {
            case 0: return listing.length;
            case 1: return listing.headers;
            case 2: return listing.marks.size();
            case 3: return listing.begin;
            default: return BAD;
        }
    }

    public long bytes(int i) {
        // Refused before it is multiplied, lest 8 i runs over into the listing.
        if (i < 0 || i > listing.length / 8) {
            return 0;
        }
        long eight = 0;
        for (int k = 7; k >= 0; k--) {
            eight = eight << 8 | listing.byteOrZero(8 * i + k);
        }
        return eight;
    }

    public int index(int i, int what) {
        if (what < 0 || what > 2) {
            return BAD;
        }
        if (!listing.hasMark(i)) {
            return NONE;
        }
        Mark mark = listing.marks.get(i);
        switch (what) {
            case 0: return mark.place;
            case 1: return mark.start;
            default: return mark.name.length;
        }
    }

    public int patch(int i, int b) {
        if (i < 0 || i >= listing.length) {
            return NONE;
        }
        int was = listing.byteOrZero(i);
        listing.row[i] = (byte) b;
        judge.forget();
        return was;
    }

    public int cut(int n) {
        if (n < 0 || n > listing.length) {
            return BAD;
        }
        int gone = listing.length - n;
        listing.length = n;
        judge.forget();
        return gone;
    }

    public int set(int i, int place, int start) {
        int length = tape.useUp();
        if (length < 1 || length > MOST_NAME_BYTES) {
            return BAD;
        }
        if (!listing.hasMark(i)) {
            return NONE;
        }
        listing.marks.set(i, new Mark(place, start, Arrays.copyOf(tape.row, length)));
        judge.forget();
        return 0;
    }

    public int check() {
        return judge.entriesIfRight();
    }

    public int entry(int i, int what) {
        if (what < 0 || what > 4) {
            return BAD;
        }
        if (i < 0 || i >= judge.entriesIfRight() || !walk.goToEntry(i)) {
            return NONE;
        }
        switch (what) {
            case 0: return (int) walk.number;
            case 1: return walk.kind;
            case 2: return walk.place;
            case 3: return (int) walk.start;
            default: return walk.nameLength;
        }
    }

    public int find() {
        int length = tape.useUp();
        passedEntries = 0;
        int entries = judge.entriesIfRight();
        if (entries == NONE) {
            return NONE;
        }
        walk.goTo(listing.placeToLookFrom(tape.row, length));
        for (int n = 0; n < entries && walk.step(); n++) {
            passedEntries++;
            int order = walk.compareNameWith(tape.row, 0, length);
            if (order == 0) {
                return (int) walk.number;
            }
            if (order > 0) {
                return NONE;
            }
        }
        return NONE;
    }

    public int passed() {
        return passedEntries;
    }

    /** What holds of names, wherever their bytes stand. */
    private static final class Names {
        static boolean isName(byte[] row, int from, int length) {
            if (length < 1 || length > MOST_NAME_BYTES) {
                return false;
            }
            int dots = 0;
            for (int i = from; i < from + length; i++) {
                if (row[i] == 0 || row[i] == '/') {
                    return false;
                }
                if (row[i] == '.') {
                    dots++;
                }
            }
            return dots < length || length > 2;
        }

        /** Below 0, 0 or above 0: the first name is before, the same as, or behind the second. */
        static int compare(byte[] a, int aFrom, int aLength, byte[] b, int bFrom, int bLength) {
            int common = Math.min(aLength, bLength);
            for (int i = 0; i < common; i++) {
                int difference = (a[aFrom + i] & 255) - (b[bFrom + i] & 255);
                if (difference != 0) {
                    return difference;
                }
            }
            return aLength - bLength;
        }
    }

    /** The bytes that were fed and not yet read. */
    private static final class Tape {
        final byte[] row = new byte[MOST_TAPE_BYTES];
        int length = 0;

        boolean append(long bytes, int n) {
            if (length + n > MOST_TAPE_BYTES) {
                return false;
            }
            for (int i = 0; i < n; i++) {
                row[length + i] = (byte) (bytes >> 8 * i);
            }
            length += n;
            return true;
        }

        /** How many bytes there were; they stay readable in the row until the next ones are fed. */
        int useUp() {
            int used = length;
            length = 0;
            return used;
        }
    }

    private static final class Entry {
        final byte[] name;
        final int number;
        final int start;
        final int place;
        final int kind;

        Entry(byte[] name, int number, int start, int place, int kind) {
            this.name = name;
            this.number = number;
            this.start = start;
            this.place = place;
            this.kind = kind;
        }

        static boolean canHave(int number, int start, int place, int kind) {
            return number >= 1 && number <= MOST_NUMBER
                && start >= 0 && start <= MOST_START
                && place >= 0 && place <= MOST_PLACE
                && kind >= 1 && kind <= MOST_KIND;
        }
    }

    /** The entries, in order by their names. */
    private static final class Directory {
        final ArrayList<Entry> entries = new ArrayList<>();

        int count() {
            return entries.size();
        }

        boolean isFull() {
            return entries.size() >= MOST_ENTRIES;
        }

        /** Where the entry with the name is, or would be. */
        int placeOf(byte[] name, int length) {
            int low = 0;
            int high = entries.size();
            for (int n = 0; n < MOST_ENTRIES && low < high; n++) {
                int middle = (low + high) / 2;
                if (compareAt(middle, name, length) < 0) {
                    low = middle + 1;
                } else {
                    high = middle;
                }
            }
            return low;
        }

        boolean hasAt(int at, byte[] name, int length) {
            return at < entries.size() && compareAt(at, name, length) == 0;
        }

        private int compareAt(int at, byte[] name, int length) {
            byte[] own = entries.get(at).name;
            return Names.compare(own, 0, own.length, name, 0, length);
        }

        void insert(int at, Entry added) {
            entries.add(at, added);
        }

        void removeAt(int at) {
            entries.remove(at);
        }

        void removeAll() {
            entries.clear();
        }
    }

    /** For each known number the latest entry that got it, in order by the numbers. */
    private static final class Known {
        private final ArrayList<Entry> latest = new ArrayList<>();

        private int placeOf(int number) {
            int low = 0;
            int high = latest.size();
            for (int n = 0; n < MOST_KNOWN && low < high; n++) {
                int middle = (low + high) / 2;
                if (latest.get(middle).number < number) {
                    low = middle + 1;
                } else {
                    high = middle;
                }
            }
            return low;
        }

        private boolean hasAt(int at, int number) {
            return at < latest.size() && latest.get(at).number == number;
        }

        boolean hasRoomFor(int number) {
            return latest.size() < MOST_KNOWN || hasAt(placeOf(number), number);
        }

        void learn(Entry entry) {
            int at = placeOf(entry.number);
            if (hasAt(at, entry.number)) {
                latest.set(at, entry);
            } else {
                latest.add(at, entry);
            }
        }

        /** Whether what a listing tells of a number, without a limit there, is what is known of it. */
        boolean agrees(long number, long start, int place, int kind) {
            if (number < 1 || number > MOST_NUMBER) {
                return false;
            }
            int at = placeOf((int) number);
            if (!hasAt(at, (int) number)) {
                return false;
            }
            Entry entry = latest.get(at);
            return entry.start == start && entry.place == place && entry.kind == kind;
        }
    }

    /** An index: it leads to a header where a piece of the row begins. */
    private static final class Mark {
        final int place;
        final int start;
        final byte[] name;

        Mark(int place, int start, byte[] name) {
            this.place = place;
            this.start = start;
            this.name = name;
        }
    }

    /** Where headers and entries go in a listing that is being made. */
    private static final class Layout {
        private int begin;
        private int headerStart;
        int end;
        int headerAt;
        int headerNumber;
        /** 0 only while there is no header. */
        int headerEntries;
        int entryAt;

        void restart(int newBegin) {
            begin = newBegin;
            end = 0;
            headerAt = 0;
            headerEntries = 0;
        }

        /** Lays the next entry behind the others: whether a new header comes before it. */
        boolean lay(Entry next) {
            boolean needsHeader = !fitsUnderHeader(next);
            if (needsHeader) {
                openHeader(next);
            }
            headerEntries++;
            entryAt = end;
            end += ENTRY_BYTES + next.name.length;
            return needsHeader;
        }

        private boolean fitsUnderHeader(Entry next) {
            int difference = next.number - headerNumber;
            return headerEntries > 0
                && headerEntries < MOST_UNDER_HEADER
                && next.start == headerStart
                && difference >= LEAST_DIFFERENCE && difference <= MOST_DIFFERENCE
                && pieceOf(begin, end) == pieceOf(begin, headerAt);
        }

        private void openHeader(Entry first) {
            headerAt = end;
            headerStart = first.start;
            headerNumber = first.number;
            headerEntries = 0;
            end += HEADER_BYTES;
        }

        static int pieceOf(int begin, int place) {
            return (begin + place) / PIECE_BYTES;
        }
    }

    /** The listing's bytes and its indexes. */
    private static final class Listing {
        /**
         * All that 512 calls can make fits in the first room, so that an object stays small; the
         * whole room is taken once a listing needs more.
         */
        private static final int FIRST_ROOM = 8192;

        byte[] row = new byte[FIRST_ROOM];
        int length = 0;
        int headers = 0;
        int begin = 0;
        final ArrayList<Mark> marks = new ArrayList<>();
        private final Layout layout = new Layout();

        /** Answers false and changes nothing when the listing would have too many bytes. */
        boolean write(Directory directory, int newBegin) {
            int needed = measure(directory, newBegin);
            if (needed > MOST_LISTING_BYTES) {
                return false;
            }
            if (needed > row.length) {
                row = new byte[MOST_LISTING_BYTES];
            }
            length = needed;
            headers = 0;
            begin = newBegin;
            marks.clear();
            layout.restart(newBegin);
            for (int i = 0; i < directory.entries.size(); i++) {
                writeNext(directory.entries.get(i));
            }
            return true;
        }

        private int measure(Directory directory, int newBegin) {
            layout.restart(newBegin);
            for (int i = 0; i < directory.entries.size(); i++) {
                layout.lay(directory.entries.get(i));
            }
            return layout.end;
        }

        private void writeNext(Entry entry) {
            int headerBefore = layout.headerAt;
            if (layout.lay(entry)) {
                writeHeader(entry, headerBefore);
            }
            // Written anew with each entry: how many there will be is not known before.
            putU4(layout.headerAt, layout.headerEntries - 1);
            int at = layout.entryAt;
            putU2(at, entry.place);
            putU2(at + 2, entry.number - layout.headerNumber);
            putU2(at + 4, entry.kind);
            putU2(at + 6, entry.name.length - 1);
            System.arraycopy(entry.name, 0, row, at + ENTRY_BYTES, entry.name.length);
        }

        private void writeHeader(Entry first, int headerBefore) {
            int at = layout.headerAt;
            putU4(at + 4, first.start);
            putU4(at + 8, first.number);
            // The first header counts as its own forerunner, and so gets no index.
            if (pieceOf(at) != pieceOf(headerBefore)) {
                marks.add(new Mark(at, startOfPieceWith(at), first.name));
            }
            headers++;
        }

        private int pieceOf(int place) {
            return Layout.pieceOf(begin, place);
        }

        int startOfPieceWith(int place) {
            return PIECE_START_STEP * pieceOf(place);
        }

        boolean hasMark(int i) {
            return i >= 0 && i < marks.size();
        }

        /** The header of the latest index whose name is not behind this one, else the first one. */
        int placeToLookFrom(byte[] name, int nameLength) {
            int place = 0;
            for (int i = 0; i < marks.size(); i++) {
                Mark mark = marks.get(i);
                if (Names.compare(mark.name, 0, mark.name.length, name, 0, nameLength) <= 0) {
                    place = mark.place;
                }
            }
            return place;
        }

        int byteOrZero(int i) {
            return i >= 0 && i < length ? row[i] & 255 : 0;
        }

        int u2(int at) {
            return byteOrZero(at) | byteOrZero(at + 1) << 8;
        }

        long u4(int at) {
            return byteOrZero(at) | byteOrZero(at + 1) << 8 | byteOrZero(at + 2) << 16
                | (long) byteOrZero(at + 3) << 24;
        }

        private void putU2(int at, int value) {
            row[at] = (byte) value;
            row[at + 1] = (byte) (value >> 8);
        }

        private void putU4(int at, int value) {
            putU2(at, value);
            putU2(at + 2, value >> 16);
        }
    }

    /** Goes through the entries of bytes that may be a listing, from any header on. */
    private static final class Walk {
        private final Listing listing;
        private int end;
        private int entriesLeft;
        private long headerNumber;
        int headerAt;
        boolean isFirst;
        long number;
        long start;
        int place;
        int kind;
        int nameAt;
        int nameLength;

        Walk(Listing listing) {
            this.listing = listing;
        }

        void goTo(int header) {
            end = header;
            entriesLeft = 0;
        }

        boolean goToEntry(int i) {
            goTo(0);
            boolean isThere = true;
            for (int n = 0; n <= i && isThere; n++) {
                isThere = step();
            }
            return isThere;
        }

        boolean isAtEnd() {
            return entriesLeft == 0 && end == listing.length;
        }

        /** Reads the next entry, and the header before it: whether the bytes have them whole. */
        boolean step() {
            isFirst = entriesLeft == 0;
            return (!isFirst || readHeader()) && readEntry();
        }

        private boolean readHeader() {
            if (listing.length - end < HEADER_BYTES || listing.u4(end) >= MOST_UNDER_HEADER) {
                return false;
            }
            headerAt = end;
            entriesLeft = (int) listing.u4(end) + 1;
            start = listing.u4(end + 4);
            headerNumber = listing.u4(end + 8);
            end += HEADER_BYTES;
            return true;
        }

        private boolean readEntry() {
            if (listing.length - end < ENTRY_BYTES) {
                return false;
            }
            place = listing.u2(end);
            number = headerNumber + (short) listing.u2(end + 2);
            kind = listing.u2(end + 4);
            nameLength = listing.u2(end + 6) + 1;
            nameAt = end + ENTRY_BYTES;
            if (nameLength > listing.length - nameAt) {
                return false;
            }
            end = nameAt + nameLength;
            entriesLeft--;
            return true;
        }

        int compareNameWith(byte[] other, int from, int length) {
            return Names.compare(listing.row, nameAt, nameLength, other, from, length);
        }
    }

    /** Tells whether the listing is right. */
    private static final class Judge {
        private static final int UNJUDGED = -3;

        private final Listing listing;
        private final Walk walk;
        private final Known known;
        private int verdict = UNJUDGED;
        private int marksMet = 0;

        Judge(Listing listing, Walk walk, Known known) {
            this.listing = listing;
            this.walk = walk;
            this.known = known;
        }

        /** To be called when the bytes, the indexes or what is known have changed. */
        void forget() {
            verdict = UNJUDGED;
        }

        /** The verdict is kept, since a reader of a listing asks for it with each entry. */
        int entriesIfRight() {
            if (verdict == UNJUDGED) {
                verdict = judgeAnew();
            }
            return verdict;
        }

        private int judgeAnew() {
            walk.goTo(0);
            marksMet = 0;
            int lastNameAt = 0;
            int lastNameLength = 0;
            for (int entries = 0; entries <= listing.length; entries++) {
                if (walk.isAtEnd()) {
                    return marksMet == listing.marks.size() ? entries : NONE;
                }
                if (!walk.step() || !isEntryRight(lastNameAt, lastNameLength)) {
                    return NONE;
                }
                if (walk.isFirst && walk.headerAt > 0 && !isMarkRight()) {
                    return NONE;
                }
                lastNameAt = walk.nameAt;
                lastNameLength = walk.nameLength;
            }
            return NONE;
        }

        private boolean isEntryRight(int lastNameAt, int lastNameLength) {
            return Names.isName(listing.row, walk.nameAt, walk.nameLength)
                && walk.compareNameWith(listing.row, lastNameAt, lastNameLength) > 0
                && known.agrees(walk.number, walk.start, walk.place, walk.kind);
        }

        /**
         * Indexes are met in their order, each at the header with its place: one whose place does
         * not rise, or is no header's, keeps itself and those behind it from being met.
         */
        private boolean isMarkRight() {
            if (marksMet >= listing.marks.size()) {
                return true;
            }
            Mark mark = listing.marks.get(marksMet);
            if (mark.place != walk.headerAt) {
                return true;
            }
            marksMet++;
            return mark.start == listing.startOfPieceWith(mark.place)
                && walk.compareNameWith(mark.name, 0, mark.name.length) == 0;
        }
    }
}
