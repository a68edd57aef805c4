import java.nio.ByteBuffer;
import java.nio.ByteOrder;
import java.nio.charset.StandardCharsets;
import java.util.ArrayList;
import java.util.List;
import java.util.Random;

/** Long runs of mixed calls, each answer compared with that of a plainer program of the same document. */
public final class ModelTest {
    private static final int RUNS = 1500;
    private static final int LONG_RUNS = 60;

    public static void main(String[] args) {
        for (int seed = 0; seed < RUNS; seed++) {
            new Run(seed, 512, false).go();
        }
        for (int seed = 0; seed < LONG_RUNS; seed++) {
            new Run(1000000 + seed, 12000, true).go();
        }
        System.out.println(Run.rightWithIndexes + " of " + Run.checks + " checks saw a right listing with indexes, "
            + Run.wrongLists + " a wrong one");
        Due.due("right listings with indexes are met", Run.rightWithIndexes > 1000 ? 1 : 0, 1);
        Due.due("wrong listings are met", Run.wrongLists > 1000 ? 1 : 0, 1);
        Due.end();
    }

    /** One run: the same calls to a row and to a model. */
    private static final class Run {
        static int rightWithIndexes = 0;
        static int wrongLists = 0;
        static int checks = 0;

        private final ListingRow row = new ListingRow();
        private final Model model = new Model();
        private final Random random;
        private final int seed;
        private final boolean isLong;
        private final int nameLength;
        private final int numbers;
        private final int starts;
        private int callsLeft;

        Run(int seed, int calls, boolean isLong) {
            this.seed = seed;
            this.callsLeft = calls;
            this.isLong = isLong;
            random = new Random(seed);
            nameLength = isLong ? new int[] {12, 100, 256}[random.nextInt(3)] : new int[] {2, 8, 40}[random.nextInt(3)];
            numbers = new int[] {10, 2000, 100000}[random.nextInt(3)];
            starts = new int[] {1, 2, 65536}[random.nextInt(3)];
        }

        void go() {
            int toFill = isLong ? random.nextInt(700) : random.nextInt(80);
            for (int i = 0; i < toFill && callsLeft > 40; i++) {
                addOne();
            }
            makeNearBorder();
            while (callsLeft > 0) {
                oneStep();
            }
        }

        private void due(String call, long got, long want) {
            callsLeft--;
            // Answers after an object's 512th call are free; only long runs reach the limits that lie there.
            if (isLong || callsLeft >= 0) {
                Due.due("run " + seed + ", " + callsLeft + " calls before its end: " + call, got, want);
            }
        }

        private void oneStep() {
            switch (random.nextInt(isLong ? 40 : 24)) {
                case 0: addOne(); break;
                case 1: feedName(someName()); due("drop", row.drop(), model.drop()); break;
                case 2: makeNearBorder(); break;
                case 3: strangeCall(); break;
                case 4: case 5: wound(); break;
                case 6: case 7: rightPatch(); break;
                case 8: case 9: case 10: setIndex(); break;
                case 11: cutSome(); break;
                case 12: case 13: case 14: findOne(); break;
                case 15: if (random.nextInt(isLong ? 200 : 40) == 0) { due("clear", row.clear(), model.clear()); } break;
                case 16: lookAll(); break;
                case 17: case 18: checkIt(); break;
                case 19: case 20: lookAtEntry(); break;
                default: addOne(); break;
            }
        }

        private String someName() {
            List<String> there = new ArrayList<>(model.entries.keySet());
            if (!there.isEmpty() && random.nextInt(2) == 0) {
                String name = there.get(random.nextInt(there.size()));
                int change = random.nextInt(8);
                return change == 0 ? name + "!" : change == 1 ? name.substring(1) : change == 2
                    ? name.substring(0, name.length() - 1) : name;
            }
            return newName();
        }

        private String newName() {
            String alphabet = random.nextInt(8) == 0 ? "a/.\0b\u0080\u00ff" : "ab.\u00ffc";
            int length = random.nextInt(30) == 0 ? random.nextInt(300) : 1 + random.nextInt(nameLength);
            StringBuilder name = new StringBuilder();
            for (int i = 0; i < length; i++) {
                boolean same = length > 8 && i > 3 && i < length - 4;
                name.append(same ? 'x' : alphabet.charAt(random.nextInt(alphabet.length())));
            }
            return name.toString();
        }

        private void feedName(String name) {
            byte[] bytes = name.getBytes(StandardCharsets.ISO_8859_1);
            for (int i = 0; i < bytes.length;) {
                int n = Math.min(bytes.length - i, random.nextInt(4) == 0 ? 1 + random.nextInt(8) : 8);
                long fed = random.nextLong();
                for (int k = 0; k < n; k++) {
                    fed = fed & ~(255L << 8 * k) | (bytes[i + k] & 255L) << 8 * k;
                }
                due("feed", row.feed(fed, n), model.feed(fed, n));
                i += n;
            }
        }

        private int edge(int low, int high, int inner) {
            int choice = random.nextInt(200);
            return choice == 0 ? low - 1 : choice == 1 ? high + 1 : choice < 8 ? low : choice < 14 ? high
                : low + random.nextInt(inner);
        }

        private void addOne() {
            feedName(random.nextInt(6) == 0 ? someName() : newName());
            int number = edge(1, 100000, numbers);
            Model.Told told = model.known.get(number);
            // Mostly what is known already, else a number that is used twice makes most listings wrong.
            boolean again = told != null && random.nextInt(200) != 0;
            int start = again ? told.start() : edge(0, 65535, starts);
            int place = again ? told.place() : edge(0, 8191, 8192);
            int kind = again ? told.kind() : edge(1, 7, 7);
            due("add(" + number + ", " + start + ", " + place + ", " + kind + ")",
                row.add(number, start, place, kind), model.add(number, start, place, kind));
        }

        private void makeNearBorder() {
            int estimate = 30;
            for (String name : model.entries.keySet()) {
                estimate += 8 + name.length();
            }
            int begin = 8192 * (1 + random.nextInt(4)) - random.nextInt(Math.min(8192, estimate));
            begin = random.nextInt(20) == 0 ? edge(0, 40000, 40000) : begin;
            due("make(" + begin + ")", row.make(begin), model.make(begin));
            lookAll();
        }

        /** Looks at all that the listing is, but its entries. */
        private void lookAll() {
            for (int what = 0; what < 4; what++) {
                due("size(" + what + ")", row.size(what), model.size(what));
            }
            for (int i = 0; i <= model.bytes.length / 8 + 1; i += 1 + random.nextInt(isLong ? 200 : 20)) {
                due("bytes(" + i + ")", row.bytes(i), model.bytes(i));
            }
            for (int i = 0; i <= model.indexes.size(); i++) {
                for (int what = 0; what < 3; what++) {
                    due("index(" + i + ", " + what + ")", row.index(i, what), model.index(i, what));
                }
            }
            checkIt();
        }

        private void checkIt() {
            int want = model.check();
            due("check", row.check(), want);
            checks++;
            wrongLists += want == ListingRow.NONE ? 1 : 0;
            rightWithIndexes += want > 0 && !model.indexes.isEmpty() ? 1 : 0;
        }

        private void lookAtEntry() {
            int i = random.nextInt(10) == 0 ? model.check() - random.nextInt(2)
                : random.nextInt(Math.max(1, model.check()) + 1) - random.nextInt(2);
            int what = random.nextInt(7) - 1;
            due("entry(" + i + ", " + what + ")", row.entry(i, what), model.entry(i, what));
        }

        private void findOne() {
            feedName(someName());
            due("find", row.find(), model.find());
            due("passed", row.passed(), model.passed);
        }

        private void patch(int i, int b) {
            due("patch(" + i + ", " + b + ")", row.patch(i, b), model.patch(i, b));
        }

        /** A byte becomes another one, and mostly what it was again. */
        private void wound() {
            if (model.bytes.length == 0) {
                return;
            }
            int i = random.nextInt(model.bytes.length);
            List<Model.Read> all = model.right();
            if (all != null && random.nextInt(2) == 0) {
                i = Math.min(model.bytes.length - 1, all.get(random.nextInt(all.size())).header() + random.nextInt(24));
            }
            int was = model.bytes[i];
            patch(i, random.nextInt(3) == 0 ? was ^ 1 << random.nextInt(8) : random.nextInt());
            checkIt();
            if (random.nextInt(3) == 0) {
                lookAtEntry();
                findOne();
            }
            if (random.nextInt(12) != 0) {
                patch(i, was);
                checkIt();
            }
        }

        /** A header's number becomes another one, and its entries' differences with it: mostly still right. */
        private void rightPatch() {
            List<Model.Read> all = model.right();
            if (all == null || all.isEmpty()) {
                return;
            }
            int header = all.get(random.nextInt(all.size())).header();
            ByteBuffer bytes = ByteBuffer.wrap(model.bytes.clone()).order(ByteOrder.LITTLE_ENDIAN);
            int more = random.nextInt(100) - 50;
            bytes.putInt(header + 8, bytes.getInt(header + 8) + more);
            int at = header + 12;
            int count = bytes.getInt(header);
            if (count > 12) {
                return;
            }
            for (int k = 0; k <= count; k++) {
                bytes.putShort(at + 2, (short) (bytes.getShort(at + 2) - more));
                at += 9 + (bytes.getShort(at + 6) & 0xffff);
            }
            byte[] aim = bytes.array();
            for (int i = header; i < at; i++) {
                if (aim[i] != model.bytes[i]) {
                    patch(i, aim[i]);
                }
            }
            checkIt();
            lookAtEntry();
        }

        /** An index becomes one of a header, mostly with the right start and name, else with strange ones. */
        private void setIndex() {
            List<Model.Read> all = model.read();
            int i = model.indexes.isEmpty() ? 0 : random.nextInt(model.indexes.size() + (random.nextInt(9) == 0 ? 1 : 0));
            if (all == null || all.isEmpty()) {
                feedName(someName());
                due("set", row.set(i, 5, 5), model.set(i, 5, 5));
                return;
            }
            Model.Index was = i < model.indexes.size() ? model.indexes.get(i) : null;
            Model.Read e = all.get(random.nextInt(all.size()));
            int header = e.header();
            String name = e.name();
            for (Model.Read other : all) {
                name = other.header() == header && other.first() ? other.name() : name;
            }
            int choice = random.nextInt(12);
            int place = choice == 0 ? header + 1 : choice == 1 ? random.nextInt() : header;
            int start = choice == 2 ? random.nextInt() : (model.begin + header) / 8192 * 8194 + (choice == 3 ? 8194 : 0);
            feedName(choice == 4 ? someName() : choice == 5 ? e.name() : name);
            due("set(" + i + ", " + place + ", " + start + ")", row.set(i, place, start), model.set(i, place, start));
            checkIt();
            findOne();
            if (was != null && random.nextInt(3) != 0) {
                feedName(was.name());
                due("set back", row.set(i, was.place(), was.start()), model.set(i, was.place(), was.start()));
                checkIt();
            }
        }

        private void cutSome() {
            List<Model.Read> all = model.read();
            int n = model.bytes.length - random.nextInt(30);
            if (all != null && !all.isEmpty() && random.nextInt(2) == 0) {
                n = all.get(all.size() - 1).header();
            }
            if (random.nextInt(6) == 0) {
                n = random.nextInt(model.bytes.length + 2);
            }
            due("cut(" + n + ")", row.cut(n), model.cut(n));
            checkIt();
            if (random.nextInt(3) == 0) {
                makeNearBorder();
            }
        }

        private int strange() {
            int[] some = {Integer.MIN_VALUE, Integer.MAX_VALUE, -1, 0, 1, 2, 9, 1 << 29, 1 << 28, 65536, 40001, random.nextInt()};
            return some[random.nextInt(some.length)];
        }

        private void strangeCall() {
            int a = strange();
            int b = strange();
            int c = strange();
            int d = strange();
            switch (random.nextInt(11)) {
                case 0: due("feed", row.feed(b, a), model.feed(b, a)); break;
                case 1: due("add", row.add(a, b, c, d), model.add(a, b, c, d)); break;
                case 2: due("size", row.size(a), model.size(a)); break;
                case 3: due("bytes", row.bytes(a), model.bytes(a)); break;
                case 4: due("index", row.index(a, b), model.index(a, b)); break;
                case 5: due("patch", row.patch(a < 0 ? a : a | 1 << 20, b), ListingRow.NONE); break;
                case 6: due("cut", row.cut(a < 0 ? a : a | 1 << 20), ListingRow.BAD); break;
                case 7: due("set", row.set(a, b, c), model.set(a, b, c)); break;
                case 8: due("entry", row.entry(a, b), model.entry(a, b)); break;
                case 9: due("make", row.make(a < 0 ? a : a | 1 << 20), ListingRow.BAD); break;
                default: due("passed", row.passed(), model.passed); break;
            }
        }
    }
}
