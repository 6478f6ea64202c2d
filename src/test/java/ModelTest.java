import java.util.ArrayList;
import java.util.Arrays;
import java.util.List;
import java.util.Random;

/** All promises: runs of chosen-at-random calls, the same ones each time, held against the model. */
public final class ModelTest {
    private static final long MOST = 4294967295L;
    private static final int[] TAGS = {2, 4, 6, 64, 65, 66, 67, 70};

    private final Random random;
    private final TreeAgent agent = new TreeAgent();
    private final Model model = new Model();
    private final List<long[]> names = new ArrayList<>();
    private final List<Integer> tags = new ArrayList<>();
    private final String run;
    private int calls = 0;

    private ModelTest(long seed) {
        random = new Random(seed);
        run = "run " + seed + ", ";
    }

    public static void main(String[] args) {
        int runs = args.length > 0 ? Integer.parseInt(args[0]) : 3000;
        for (int seed = 0; seed < runs && Check.wrongSoFar() < 10; seed++) {
            ModelTest one = new ModelTest(seed);
            if (seed % 4 == 3) {
                one.oddCalls();
            } else if (seed % 4 == 2) {
                one.settings();
            } else {
                one.questions();
            }
        }
        Check.finish();
    }

    private int below(int n) {
        return random.nextInt(n);
    }

    private boolean oneIn(int n) {
        return random.nextInt(n) == 0;
    }

    private boolean same(String call, long got, long want) {
        calls++;
        Check.due(run + "call " + calls + ": " + call, got, want);
        return got == want;
    }

    private void feed(byte[] octets) {
        same("feed(0, 0)", agent.feed(0, 0), model.feed(0, 0));
        for (int at = 0; at < octets.length; at += 8) {
            int n = Math.min(8, octets.length - at);
            byte[] eight = new byte[8];
            System.arraycopy(octets, at, eight, 8 - n, n);
            long v = java.nio.ByteBuffer.wrap(eight).getLong();
            same("feed(" + v + ", " + n + ")", agent.feed(v, n), model.feed(v, n));
        }
    }

    private void hold(long... name) {
        same("number(-1)", agent.number(-1), model.number(-1));
        for (long v : name) {
            same("number(" + v + ")", agent.number(v), model.number(v));
        }
    }

    private long someBound() {
        return new long[] {-5, 0, 0, 1, 8, 40, 300, MOST}[below(8)];
    }

    private int someTag() {
        return oneIn(20) ? below(140) : TAGS[below(TAGS.length)];
    }

    private int someAccess() {
        return oneIn(20) ? below(6) - 2 : oneIn(4) ? below(2) : 2;
    }

    private long someNumber() {
        return new long[] {0, 1, 2, 3, 4, 5, 6, 127, 128, 16384, 2147483647L, 2147483648L, MOST}[below(13)];
    }

    private int someIndex() {
        return new int[] {0, 1, 2, 3, 4, 5, 6, 7, 8, 9, 10, 200, 300, 70000, 2147483647, -1, 1000, 1001}[below(18)];
    }

    private long[] shortName() {
        long[] name = new long[2 + below(oneIn(6) ? 14 : 4)];
        name[0] = oneIn(5) ? below(3) : 1;
        name[1] = oneIn(5) ? below(40) : 3;
        for (int i = 2; i < name.length; i++) {
            name[i] = oneIn(6) ? someNumber() : below(4);
        }
        return name;
    }

    private static long[] longer(long[] name, long... more) {
        long[] all = Arrays.copyOf(name, name.length + more.length);
        System.arraycopy(more, 0, all, name.length, more.length);
        return all;
    }

    private void someScalar() {
        long[] name = shortName();
        int tag = someTag();
        int access = someAccess();
        long least = someBound();
        long most = oneIn(20) ? least - 1 : least + below(300);
        hold(name);
        int got = agent.scalar(tag, access, least, most);
        same("scalar(" + tag + ", " + access + ", " + least + ", " + most + ")", got, model.scalar(tag, access, least, most));
        remember(got, name, tag);
    }

    private void remember(int object, long[] name, int tag) {
        if (object >= 0) {
            names.add(name);
            tags.add(tag);
        }
    }

    private void someTable() {
        long[] name = shortName();
        hold(name);
        int table = agent.table();
        same("table()", table, model.table());
        int columns = below(7);
        for (int i = 0; table >= 0 && i < columns; i++) {
            int last = oneIn(8) ? someIndex() : i + 1;
            if (oneIn(3)) {
                int got = agent.status(table, last);
                same("status(" + table + ", " + last + ")", got, model.status(table, last));
                remember(got, longer(name, last), 2);
            } else {
                someColumn(table, last, name);
            }
        }
        int rows = oneIn(4) ? 14 + below(3) : below(6);
        for (int i = 0; table >= 0 && i < rows; i++) {
            int index = oneIn(4) ? someIndex() : 200 + i;
            same("row(" + table + ", " + index + ", true)", agent.row(table, index, true), model.row(table, index, true));
        }
    }

    private void someColumn(int table, int last, long[] name) {
        int tag = someTag();
        int access = someAccess();
        long least = someBound();
        long most = least + below(300);
        int got = agent.column(table, last, tag, access, least, most);
        same("column(" + table + ", " + last + ", " + tag + ", " + access + ", " + least + ", " + most + ")", got,
                model.column(table, last, tag, access, least, most));
        remember(got, longer(name, last), tag);
    }

    private void someValue() {
        int object = below(names.size() + 1);
        int index = oneIn(2) ? 0 : oneIn(2) ? 200 + below(4) : someIndex();
        int what = below(3);
        if (what == 0) {
            feed(Ber.chars("v".repeat(below(oneIn(9) ? 44 : 12))));
            same("text(" + object + ", " + index + ")", agent.text(object, index), model.text(object, index));
        } else if (what == 1) {
            hold(shortName());
            same("identity(" + object + ", " + index + ")", agent.identity(object, index), model.identity(object, index));
        } else {
            long v = oneIn(5) ? random.nextLong() : oneIn(2) ? someNumber() : below(300) - 5;
            same("value(" + object + ", " + index + ", " + v + ")", agent.value(object, index, v),
                    model.value(object, index, v));
        }
    }

    private void someView() {
        hold(someAskedName());
        boolean in = oneIn(2);
        int community = below(3);
        same("view(" + community + ", " + in + ")", agent.view(community, in), model.view(community, in));
    }

    private void questions() {
        int scalars = 1 + below(5);
        for (int i = 0; i < scalars; i++) {
            someScalar();
        }
        for (int i = below(3); i > 0; i--) {
            someTable();
        }
        feed(Ber.chars("pub"));
        same("community(true)", agent.community(true), model.community(true));
        feed(Ber.chars("see"));
        same("community(false)", agent.community(false), model.community(false));
        for (int i = oneIn(2) ? below(5) : 0; i > 0; i--) {
            someView();
        }
        for (int i = below(8); i > 0; i--) {
            someValue();
        }
        same("tick", agent.tick(4294967000L), model.tick(4294967000L));
        if (oneIn(2)) {
            int n = 100 + below(oneIn(3) ? 900 : 100);
            same("limit(" + n + ")", agent.limit(n), model.limit(n));
        }
        for (int i = 0; i < 12 && calls < 500; i++) {
            someQuestion();
        }
        compareState();
    }

    private long[] someAskedName() {
        if (names.isEmpty() || oneIn(8)) {
            return shortName();
        }
        long[] name = names.get(below(names.size()));
        if (oneIn(6)) {
            return Arrays.copyOf(name, 2 + below(name.length - 1));
        }
        if (oneIn(8)) {
            long[] other = name.clone();
            other[other.length - 1] = Math.max(0, other[other.length - 1] - 1);
            return other.length > 2 ? other : name;
        }
        long behind = oneIn(3) ? 0 : oneIn(3) ? someNumber() : 200 + below(18);
        long[] longer = longer(name, behind);
        return oneIn(12) && longer.length < 16 ? longer(longer, someNumber()) : longer;
    }

    private byte[] someValueField(int tag) {
        switch (tag) {
            case 4:
                return Ber.text("w".repeat(below(oneIn(4) ? 42 : 14)));
            case 5:
                return Ber.NULL;
            case 6:
                return Ber.name(shortName());
            case 64:
                return Ber.address(below(256), below(256), below(256), below(256));
            case 70:
                return Ber.longCounter(oneIn(2) ? random.nextLong() : below(300));
            default:
                return Ber.number(tag, oneIn(3) ? below(8) : oneIn(3) ? someNumber() : below(400) - 5);
        }
    }

    private byte[] somePair(boolean sets) {
        if (!sets) {
            return Ber.pair(Ber.name(someAskedName()), oneIn(4) ? someValueField(TAGS[below(8)]) : Ber.NULL);
        }
        int object = names.isEmpty() ? -1 : below(names.size());
        if (object < 0 || oneIn(20)) {
            return Ber.pair(Ber.name(someAskedName()), someValueField(TAGS[below(8)]));
        }
        long behind = names.get(object).length < 4 || oneIn(3) ? below(2) : 199 + below(20);
        long[] name = longer(names.get(object), behind);
        int tag = oneIn(20) ? TAGS[below(8)] : tags.get(object);
        return Ber.pair(Ber.name(name), tag == 2 && oneIn(2) ? Ber.integer(1 + below(6)) : someValueField(tag));
    }

    private byte[] someMessage() {
        int version = oneIn(3) ? 0 : 1;
        int[] kinds = {160, 161, 163, 163, 165};
        int kind = kinds[below(version == 0 && !oneIn(9) ? 4 : 5)];
        byte[][] pairs = new byte[below(oneIn(5) ? 22 : 5)][];
        for (int i = 0; i < pairs.length; i++) {
            pairs[i] = somePair(kind == 163);
        }
        long[] numbers = {oneIn(3) ? (int) random.nextLong() : 7, below(5) - 1, oneIn(4) ? 100 : below(6) - 1};
        String community = oneIn(8) ? "see" : oneIn(20) ? "no" : "pub";
        return Ber.message(oneIn(30) ? 2 : version, community, kind, numbers, pairs);
    }

    private void someQuestion() {
        byte[] octets = someMessage();
        if (oneIn(5)) {
            octets = spoiled(octets);
        }
        ask(octets);
    }

    private void ask(byte[] octets) {
        feed(octets);
        int size = agent.question();
        same("question()", size, model.question());
        // every octet is looked at, though not as a call of the run: it changes nothing
        for (int i = -1; i <= size; i++) {
            Check.due(run + "answer(" + i + ") behind call " + calls, agent.answer(i), model.answer(i));
        }
        for (int i = 0; i <= 9; i++) {
            Check.due(run + "count(" + i + ") behind call " + calls, agent.count(i), model.count(i));
        }
    }

    private byte[] spoiled(byte[] octets) {
        byte[] bad = octets.clone();
        int changes = 1 + below(3);
        for (int i = 0; i < changes && bad.length > 0; i++) {
            int at = below(bad.length);
            int what = below(4);
            if (what == 0) {
                bad = Arrays.copyOf(bad, at);
            } else if (what == 1) {
                bad[at] = (byte) below(256);
            } else if (what == 2) {
                bad[at] = (byte) (bad[at] + below(3) - 1);
            } else {
                bad = Ber.join(Arrays.copyOf(bad, at), Ber.octets(below(256)), Arrays.copyOfRange(bad, at, bad.length));
            }
        }
        return bad;
    }

    private void compareState() {
        for (int what = -1; what <= 10; what++) {
            Check.due(run + "count(" + what + ")", agent.count(what), model.count(what));
        }
        for (int table = -1; table <= 4; table++) {
            Check.due(run + "rows(" + table + ")", agent.rows(table), model.rows(table));
        }
        int[] indexes = {-1, 0, 1, 2, 3, 4, 5, 12, 13, 14, 15, 16, 17, 18, 200, 201, 202, 203, 204, 210, 215, 218};
        for (int object = -1; object <= agent.count(0); object++) {
            for (int index : indexes) {
                String at = "(" + object + ", " + index + ")";
                Check.due(run + "told" + at, agent.told(object, index), model.told(object, index));
                for (int i = -1; i <= 16; i++) {
                    Check.due(run + "part" + at + i, agent.part(object, index, i), model.part(object, index, i));
                }
            }
        }
    }

    /** Two tables whose rows come and go by their STATUS, most of their rooms full. */
    private void settings() {
        feed(Ber.chars("pub"));
        same("community(true)", agent.community(true), model.community(true));
        for (int table = 0; table < 2; table++) {
            hold(1, 3, table);
            same("table()", agent.table(), model.table());
            same("column", agent.column(table, 1, 2, 2, 0, 5), model.column(table, 1, 2, 2, 0, 5));
            same("status", agent.status(table, 2), model.status(table, 2));
            same("column", agent.column(table, 3, 70, 2, 0, 0), model.column(table, 3, 70, 2, 0, 0));
            int rows = 12 + below(5);
            for (int i = 1; i <= rows; i++) {
                same("row", agent.row(table, i, true), model.row(table, i, true));
            }
        }
        while (calls < 480) {
            byte[][] pairs = new byte[1 + below(oneIn(3) ? 14 : 5)][];
            for (int i = 0; i < pairs.length; i++) {
                pairs[i] = someSetting();
            }
            ask(Ber.ask(oneIn(3) ? 0 : 1, Ber.SET, pairs));
        }
        compareState();
    }

    private byte[] someSetting() {
        long table = oneIn(5) ? 1 : 0;
        long index = 1 + below(oneIn(2) ? 19 : 5);
        int column = 1 + below(3);
        if (column == 3) {
            return Ber.pair(Ber.name(1, 3, table, 3, index), Ber.longCounter(random.nextLong()));
        }
        if (column == 1) {
            return Ber.pair(Ber.name(1, 3, table, 1, index), Ber.integer(below(6)));
        }
        long status = oneIn(2) ? 6 : oneIn(40) ? 3 : index > 12 ? 4 + below(2) : 1 + below(2);
        return Ber.pair(Ber.name(1, 3, table, 2, index), Ber.integer(status));
    }

    /** Calls with any arguments in any order. */
    private void oddCalls() {
        while (calls < 460) {
            if (oneIn(3)) {
                someBuilding();
            } else {
                oddCall();
            }
        }
        compareState();
    }

    private void someBuilding() {
        int what = below(6);
        if (what == 0) {
            someScalar();
        } else if (what == 1) {
            someTable();
        } else if (what == 2) {
            someValue();
        } else if (what == 3) {
            someView();
        } else if (what == 4) {
            someQuestion();
        } else {
            feed(Ber.chars("c".repeat(below(44))));
            boolean sets = oneIn(2);
            same("community(" + sets + ")", agent.community(sets), model.community(sets));
        }
    }

    private int oddInt() {
        return oneIn(4) ? random.nextInt() : oneIn(2) ? below(12) - 3 : someIndex();
    }

    private long oddLong() {
        return oneIn(3) ? random.nextLong() : oneIn(2) ? below(50) - 3 : someNumber();
    }

    private void oddColumn(int table, int tag, int access, long least, long most) {
        int last = oddInt();
        same("column(" + table + ", " + last + ", " + tag + ", " + access + ")",
                agent.column(table, last, tag, access, least, most), model.column(table, last, tag, access, least, most));
    }

    private void oddCall() {
        int a = oddInt();
        int b = oddInt();
        int c = oddInt();
        int d = oddInt();
        long v = oddLong();
        long w = oddLong();
        boolean y = oneIn(2);
        switch (below(20)) {
            case 0: same("feed(" + v + ", " + a + ")", agent.feed(v, a), model.feed(v, a)); break;
            case 1: same("number(" + v + ")", agent.number(v), model.number(v)); break;
            case 2: same("number(" + a + ")", agent.number(a), model.number(a)); break;
            case 3: same("scalar(" + a + ", " + b + ")", agent.scalar(a, b, v, w), model.scalar(a, b, v, w)); break;
            case 4: same("table()", agent.table(), model.table()); break;
            case 5: oddColumn(a % 5, c, d, v, w); break;
            case 6: same("status(" + a + ", " + b + ")", agent.status(a, b), model.status(a, b)); break;
            case 7: same("row(" + a + ", " + b + ", " + y + ")", agent.row(a, b, y), model.row(a, b, y)); break;
            case 8: same("value(" + a + ", " + b + ", " + v + ")", agent.value(a, b, v), model.value(a, b, v)); break;
            case 9: same("text(" + a + ", " + b + ")", agent.text(a, b), model.text(a, b)); break;
            case 10: same("identity(" + a + ", " + b + ")", agent.identity(a, b), model.identity(a, b)); break;
            case 11: same("community(" + y + ")", agent.community(y), model.community(y)); break;
            case 12: same("view(" + a + ", " + y + ")", agent.view(a, y), model.view(a, y)); break;
            case 13: same("limit(" + a + ")", agent.limit(a), model.limit(a)); break;
            case 14: same("tick(" + v + ")", agent.tick(v), model.tick(v)); break;
            case 15: same("question()", agent.question(), model.question()); break;
            case 16: same("answer(" + a + ")", agent.answer(a), model.answer(a)); break;
            case 17: same("count(" + a + ")", agent.count(a), model.count(a)); break;
            case 18: same("rows(" + a + ")", agent.rows(a), model.rows(a)); break;
            default:
                same("told(" + a + ", " + b + ")", agent.told(a, b), model.told(a, b));
                same("part(" + a + ", " + b + ", " + c + ")", agent.part(a, b, c), model.part(a, b, c));
                break;
        }
    }
}
