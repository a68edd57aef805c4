import java.nio.ByteBuffer;
import java.nio.ByteOrder;
import java.nio.charset.StandardCharsets;
import java.util.ArrayList;
import java.util.Arrays;
import java.util.HashMap;
import java.util.List;
import java.util.Map;
import java.util.TreeMap;

/** The document's words, with no thought of room or speed. Names are texts of characters 0 to 255. */
final class Model {
    record Told(int start, int place, int kind) {
    }

    record Entry(String name, int number, Told told) {
    }

    record Index(int place, int start, String name) {
    }

    record Read(int header, boolean first, String name, long number, long start, int place, int kind) {
    }

    StringBuilder tape = new StringBuilder();
    TreeMap<String, Entry> entries = new TreeMap<>();
    Map<Integer, Told> known = new HashMap<>();
    byte[] bytes = {};
    int headers = 0;
    int begin = 0;
    List<Index> indexes = new ArrayList<>();
    int passed = 0;

    String take() {
        String taken = tape.toString();
        tape.setLength(0);
        return taken;
    }

    static boolean isName(String s) {
        return !s.isEmpty() && s.length() <= 256 && !s.equals(".") && !s.equals("..")
            && s.indexOf('/') < 0 && s.indexOf('\0') < 0;
    }

    static boolean within(int n, int low, int high) {
        return low <= n && n <= high;
    }

    int feed(long fed, int n) {
        if (!within(n, 1, 8)) {
            return ListingRow.BAD;
        }
        if (tape.length() + n > 300) {
            return ListingRow.FULL;
        }
        byte[] eight = ByteBuffer.allocate(8).order(ByteOrder.LITTLE_ENDIAN).putLong(fed).array();
        tape.append(new String(eight, 0, n, StandardCharsets.ISO_8859_1));
        return tape.length();
    }

    int add(int number, int start, int place, int kind) {
        String name = take();
        if (!isName(name) || !within(number, 1, 100000) || !within(start, 0, 65535)
            || !within(place, 0, 8191) || !within(kind, 1, 7)) {
            return ListingRow.BAD;
        }
        if (entries.containsKey(name)) {
            return ListingRow.THERE;
        }
        if (entries.size() == 600 || known.size() == 1500 && !known.containsKey(number)) {
            return ListingRow.FULL;
        }
        Told told = new Told(start, place, kind);
        entries.put(name, new Entry(name, number, told));
        known.put(number, told);
        return entries.size();
    }

    int drop() {
        String name = take();
        if (!isName(name)) {
            return ListingRow.BAD;
        }
        return entries.remove(name) == null ? ListingRow.NONE : entries.size();
    }

    int clear() {
        int were = entries.size();
        entries.clear();
        return were;
    }

    int make(int newBegin) {
        if (!within(newBegin, 0, 40000)) {
            return ListingRow.BAD;
        }
        List<List<Entry>> groups = new ArrayList<>();
        List<Integer> places = new ArrayList<>();
        int at = 0;
        for (Entry e : entries.values()) {
            if (groups.isEmpty() || isHeaderDue(groups.get(groups.size() - 1), e,
                    (newBegin + places.get(places.size() - 1)) >> 13, (newBegin + at) >> 13)) {
                groups.add(new ArrayList<>());
                places.add(at);
                at += 12;
            }
            groups.get(groups.size() - 1).add(e);
            at += 8 + e.name.length();
        }
        if (at > 65536) {
            return ListingRow.FULL;
        }
        begin = newBegin;
        headers = groups.size();
        indexes = indexesOf(groups, places);
        bytes = bytesOf(groups, at);
        return at;
    }

    static boolean isHeaderDue(List<Entry> group, Entry e, int headerPiece, int piece) {
        Entry first = group.get(0);
        int difference = e.number - first.number;
        return group.size() == 256 || first.told.start != e.told.start
            || difference != (short) difference || piece != headerPiece;
    }

    List<Index> indexesOf(List<List<Entry>> groups, List<Integer> places) {
        List<Index> made = new ArrayList<>();
        for (int i = 1; i < places.size(); i++) {
            int piece = (begin + places.get(i)) >> 13;
            if (piece != (begin + places.get(i - 1)) >> 13) {
                made.add(new Index(places.get(i), 8194 * piece, groups.get(i).get(0).name));
            }
        }
        return made;
    }

    static byte[] bytesOf(List<List<Entry>> groups, int length) {
        ByteBuffer out = ByteBuffer.allocate(length).order(ByteOrder.LITTLE_ENDIAN);
        for (List<Entry> group : groups) {
            Entry first = group.get(0);
            out.putInt(group.size() - 1).putInt(first.told.start).putInt(first.number);
            for (Entry e : group) {
                out.putShort((short) e.told.place).putShort((short) (e.number - first.number));
                out.putShort((short) e.told.kind).putShort((short) (e.name.length() - 1));
                out.put(e.name.getBytes(StandardCharsets.ISO_8859_1));
            }
        }
        return out.array();
    }

    int size(int what) {
        return what == 0 ? bytes.length : what == 1 ? headers : what == 2 ? indexes.size() : what == 3 ? begin
            : ListingRow.BAD;
    }

    long bytes(int i) {
        long answer = 0;
        for (long k = 0; k < 8; k++) {
            long at = 8L * i + k;
            if (at >= 0 && at < bytes.length) {
                answer |= (bytes[(int) at] & 255L) << 8 * k;
            }
        }
        return answer;
    }

    int index(int i, int what) {
        if (!within(what, 0, 2)) {
            return ListingRow.BAD;
        }
        if (!within(i, 0, indexes.size() - 1)) {
            return ListingRow.NONE;
        }
        Index x = indexes.get(i);
        return what == 0 ? x.place : what == 1 ? x.start : x.name.length();
    }

    int patch(int i, int b) {
        if (!within(i, 0, bytes.length - 1)) {
            return ListingRow.NONE;
        }
        int was = bytes[i] & 255;
        bytes[i] = (byte) b;
        return was;
    }

    int cut(int n) {
        if (!within(n, 0, bytes.length)) {
            return ListingRow.BAD;
        }
        int went = bytes.length - n;
        bytes = Arrays.copyOf(bytes, n);
        return went;
    }

    int set(int i, int place, int start) {
        String name = take();
        if (!within(name.length(), 1, 256)) {
            return ListingRow.BAD;
        }
        if (!within(i, 0, indexes.size() - 1)) {
            return ListingRow.NONE;
        }
        indexes.set(i, new Index(place, start, name));
        return 0;
    }

    /** Headers and entries as the bytes tell them, or null when they are none. */
    List<Read> read() {
        List<Read> all = new ArrayList<>();
        ByteBuffer in = ByteBuffer.wrap(bytes).order(ByteOrder.LITTLE_ENDIAN);
        while (in.hasRemaining()) {
            int header = in.position();
            if (in.remaining() < 12) {
                return null;
            }
            int more = in.getInt();
            long start = Integer.toUnsignedLong(in.getInt());
            long number = Integer.toUnsignedLong(in.getInt());
            if (!within(more, 0, 255)) {
                return null;
            }
            for (int k = 0; k <= more; k++) {
                if (in.remaining() < 8) {
                    return null;
                }
                int place = in.getShort() & 0xffff;
                int difference = in.getShort();
                int kind = in.getShort() & 0xffff;
                int length = (in.getShort() & 0xffff) + 1;
                if (in.remaining() < length) {
                    return null;
                }
                String name = new String(bytes, in.position(), length, StandardCharsets.ISO_8859_1);
                in.position(in.position() + length);
                all.add(new Read(header, k == 0, name, number + difference, start, place, kind));
            }
        }
        return all;
    }

    /** The entries of a right listing, or null. */
    List<Read> right() {
        List<Read> all = read();
        if (all == null) {
            return null;
        }
        Map<Integer, String> firstNames = new HashMap<>();
        for (int i = 0; i < all.size(); i++) {
            Read e = all.get(i);
            Told told = e.number == (int) e.number ? known.get((int) e.number) : null;
            if (!isName(e.name) || i > 0 && all.get(i - 1).name.compareTo(e.name) >= 0 || told == null
                || told.start != e.start || told.place != e.place || told.kind != e.kind) {
                return null;
            }
            if (e.first && e.header != 0) {
                firstNames.put(e.header, e.name);
            }
        }
        for (int i = 0; i < indexes.size(); i++) {
            Index x = indexes.get(i);
            if (i > 0 && indexes.get(i - 1).place >= x.place || !x.name.equals(firstNames.get(x.place))
                || x.start != (begin + x.place) / 8192 * 8194) {
                return null;
            }
        }
        return all;
    }

    int check() {
        List<Read> all = right();
        return all == null ? ListingRow.NONE : all.size();
    }

    int entry(int i, int what) {
        if (!within(what, 0, 4)) {
            return ListingRow.BAD;
        }
        List<Read> all = right();
        if (all == null || !within(i, 0, all.size() - 1)) {
            return ListingRow.NONE;
        }
        Read e = all.get(i);
        return what == 0 ? (int) e.number : what == 1 ? e.kind : what == 2 ? e.place
            : what == 3 ? (int) e.start : e.name.length();
    }

    int find() {
        String name = take();
        passed = 0;
        List<Read> all = right();
        if (all == null) {
            return ListingRow.NONE;
        }
        int from = 0;
        for (Index x : indexes) {
            from = x.name.compareTo(name) <= 0 ? x.place : from;
        }
        for (Read e : all) {
            if (e.header >= from) {
                passed++;
                if (e.name.compareTo(name) >= 0) {
                    return e.name.equals(name) ? (int) e.number : ListingRow.NONE;
                }
            }
        }
        return ListingRow.NONE;
    }
}
