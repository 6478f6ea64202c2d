import java.math.BigInteger;
import java.util.ArrayList;
import java.util.Arrays;
import java.util.Comparator;
import java.util.HashMap;
import java.util.List;
import java.util.Map;
import java.util.Set;
import java.util.TreeMap;

/**
 * The document once more, in the plainest way that the Java library allows: every instance is looked at
 * for every name, and every answer is written before it is measured. ModelTest holds the program against it.
 */
final class Model {
    private static final long MOST = 4294967295L;
    private static final Set<Integer> TAGS = Set.of(2, 4, 6, 64, 65, 66, 67, 70);

    /** A name's order is the order of its numbers. */
    static final Comparator<List<Long>> ORDER = (a, b) -> {
        for (int i = 0; i < Math.min(a.size(), b.size()); i++) {
            int c = Long.compare(a.get(i), b.get(i));
            if (c != 0) {
                return c;
            }
        }
        return Integer.compare(a.size(), b.size());
    };

    record Val(int tag, BigInteger number, List<Long> parts) {
    }

    record Row(List<Long> name, Val val) {
    }

    static final class Obj {
        List<Long> name;
        int tag;
        int access;
        long least;
        long most;
        int table = -1;
        boolean status;
        Map<Long, Val> vals = new HashMap<>();
    }

    static final class Tab {
        List<Long> name;
        TreeMap<Long, Integer> rows = new TreeMap<>();
    }

    static final class Com {
        byte[] name;
        boolean sets;
        List<List<Long>> views = new ArrayList<>();
        List<Boolean> ins = new ArrayList<>();
    }

    /** What a message that is dropped ends the reading with. */
    static final class Drop extends Exception {
        private static final long serialVersionUID = 1L;
        final int cause;

        Drop(int cause) {
            this.cause = cause;
        }
    }

    private byte[] tape = new byte[0];
    private List<Long> hand = new ArrayList<>();
    private final List<Obj> objs = new ArrayList<>();
    private final List<Tab> tabs = new ArrayList<>();
    private final List<Com> coms = new ArrayList<>();
    private final int[] counts = new int[8];
    private int limit = 484;
    private BigInteger clock = BigInteger.ZERO;
    private byte[] answer = new byte[0];

    private int version;
    private Com com;
    private int kind;
    private int id;
    private int s;
    private int t;
    private List<Row> asked;

    int feed(long v, int n) {
        if (n < 0 || n > 8) {
            return -2;
        }
        if (n == 0) {
            tape = new byte[0];
            return 0;
        }
        if (tape.length + n > 1200) {
            return -4;
        }
        byte[] eight = java.nio.ByteBuffer.allocate(8).putLong(v).array();
        tape = Ber.join(tape, Arrays.copyOfRange(eight, 8 - n, 8));
        return tape.length;
    }

    int number(long v) {
        if (v == -1) {
            hand = new ArrayList<>();
            return 0;
        }
        long most = hand.isEmpty() ? 2 : hand.size() == 1 ? 39 : MOST;
        if (v < 0 || v > most) {
            return -2;
        }
        if (hand.size() == 16) {
            return -4;
        }
        hand.add(v);
        return hand.size();
    }

    private List<Long> useHand() {
        List<Long> name = hand;
        hand = new ArrayList<>();
        return name;
    }

    private byte[] useTape() {
        byte[] octets = tape;
        tape = new byte[0];
        return octets;
    }

    private static boolean begins(List<Long> name, List<Long> with) {
        return name.size() >= with.size() && name.subList(0, with.size()).equals(with);
    }

    private boolean taken(List<Long> name) {
        return objs.stream().anyMatch(o -> begins(o.name, name) || begins(name, o.name))
                || tabs.stream().anyMatch(o -> begins(o.name, name) || begins(name, o.name));
    }

    private int add(List<Long> name, int[] tagAccess, long least, long most, int table, boolean status) {
        Obj o = new Obj();
        o.name = name;
        o.tag = tagAccess[0];
        o.access = tagAccess[1];
        o.least = least;
        o.most = most;
        o.table = table;
        o.status = status;
        objs.add(o);
        if (table < 0) {
            o.vals.put(0L, first(o.tag));
        }
        return objs.size() - 1;
    }

    private static Val first(int tag) {
        return new Val(tag, BigInteger.ZERO, tag == 6 ? List.of(0L, 0L) : List.of());
    }

    int scalar(int tag, int access, long least, long most) {
        List<Long> name = useHand();
        if (!TAGS.contains(tag) || access < 0 || access > 2 || least > most || name.size() < 2 || name.size() > 15) {
            return -2;
        }
        if (taken(name)) {
            return -3;
        }
        return objs.size() == 40 ? -4 : add(name, new int[] {tag, access}, least, most, -1, false);
    }

    int table() {
        List<Long> name = useHand();
        if (name.size() < 2 || name.size() > 14) {
            return -2;
        }
        if (taken(name)) {
            return -3;
        }
        if (tabs.size() == 4) {
            return -4;
        }
        Tab tab = new Tab();
        tab.name = name;
        tabs.add(tab);
        return tabs.size() - 1;
    }

    private int anyColumn(int table, int last, int[] tagAccess, long least, long most, boolean status) {
        if (table < 0 || table >= tabs.size()) {
            return -1;
        }
        if (last < 1 || !TAGS.contains(tagAccess[0]) || tagAccess[1] < 0 || tagAccess[1] > 2) {
            return -2;
        }
        List<Long> name = new ArrayList<>(tabs.get(table).name);
        name.add((long) last);
        boolean same = objs.stream().anyMatch(o -> o.name.equals(name) || (status && o.status && o.table == table));
        if (same || !tabs.get(table).rows.isEmpty()) {
            return -3;
        }
        boolean full = objs.stream().filter(o -> o.table == table).count() == 6 || objs.size() == 40;
        return full ? -4 : add(name, tagAccess, least, most, table, status);
    }

    int column(int table, int last, int tag, int access, long least, long most) {
        return anyColumn(table, last, new int[] {tag, access}, least, most, false);
    }

    int status(int table, int last) {
        return anyColumn(table, last, new int[] {2, 2}, 1, 6, true);
    }

    private void make(int table, long index, int status) {
        tabs.get(table).rows.put(index, status);
        for (Obj o : objs) {
            if (o.table == table) {
                o.vals.put(index, o.status ? new Val(2, BigInteger.valueOf(status), List.of()) : first(o.tag));
            }
        }
    }

    private void remove(int table, long index) {
        tabs.get(table).rows.remove(index);
        for (Obj o : objs) {
            if (o.table == table) {
                o.vals.remove(index);
            }
        }
    }

    int row(int table, int index, boolean there) {
        if (table < 0 || table >= tabs.size()) {
            return -1;
        }
        if (index < 1) {
            return -2;
        }
        Map<Long, Integer> rows = tabs.get(table).rows;
        if (rows.containsKey((long) index) == there) {
            return 0;
        }
        if (there && rows.size() == 16) {
            return -4;
        }
        if (there) {
            make(table, index, 1);
        } else {
            remove(table, index);
        }
        return 1;
    }

    private Obj instance(int object, long index) {
        boolean there = object >= 0 && object < objs.size() && objs.get(object).vals.containsKey(index);
        return there ? objs.get(object) : null;
    }

    int value(int object, int index, long v) {
        Obj o = instance(object, index);
        if (o == null || o.tag == 4 || o.tag == 6 || o.status) {
            return -1;
        }
        boolean isSmall = o.tag >= 65 && o.tag <= 67;
        if ((o.tag == 2 && v != (int) v) || (isSmall && (v < 0 || v > MOST))) {
            return -2;
        }
        long held = o.tag == 64 ? v & MOST : v;
        BigInteger n = o.tag == 70 ? new BigInteger(Long.toUnsignedString(held)) : BigInteger.valueOf(held);
        o.vals.put((long) index, new Val(o.tag, n, List.of()));
        return 1;
    }

    private static List<Long> parts(byte[] octets) {
        List<Long> parts = new ArrayList<>();
        for (byte octet : octets) {
            parts.add((long) (octet & 255));
        }
        return parts;
    }

    int text(int object, int index) {
        byte[] octets = useTape();
        Obj o = instance(object, index);
        if (o == null || o.tag != 4) {
            return -1;
        }
        if (octets.length > 40) {
            return -2;
        }
        o.vals.put((long) index, new Val(4, BigInteger.ZERO, parts(octets)));
        return octets.length;
    }

    int identity(int object, int index) {
        List<Long> name = useHand();
        Obj o = instance(object, index);
        if (o == null || o.tag != 6) {
            return -1;
        }
        if (name.size() < 2) {
            return -2;
        }
        o.vals.put((long) index, new Val(6, BigInteger.ZERO, name));
        return name.size();
    }

    int community(boolean sets) {
        byte[] name = useTape();
        if (name.length > 40) {
            return -2;
        }
        if (coms.stream().anyMatch(c -> Arrays.equals(c.name, name))) {
            return -3;
        }
        if (coms.size() == 8) {
            return -4;
        }
        Com made = new Com();
        made.name = name;
        made.sets = sets;
        coms.add(made);
        return coms.size() - 1;
    }

    int view(int community, boolean in) {
        List<Long> name = useHand();
        if (community < 0 || community >= coms.size()) {
            return -1;
        }
        if (name.size() < 2) {
            return -2;
        }
        Com owner = coms.get(community);
        if (owner.views.size() == 8) {
            return -4;
        }
        owner.views.add(name);
        owner.ins.add(in);
        return owner.views.size();
    }

    int limit(int n) {
        if (n < 100 || n > 1000) {
            return -2;
        }
        int before = limit;
        limit = n;
        return before;
    }

    long tick(long n) {
        BigInteger then = clock.add(BigInteger.valueOf(n));
        if (n < 0 || then.compareTo(BigInteger.ONE.shiftLeft(62)) > 0) {
            return -2;
        }
        clock = then;
        return clock.longValueExact();
    }

    int answer(int i) {
        return i >= 0 && i < answer.length ? answer[i] & 255 : -1;
    }

    int count(int what) {
        if (what < 0 || what > 9) {
            return -2;
        }
        return what == 0 ? objs.size() : what == 8 ? coms.size() : what == 9 ? tabs.size() : counts[what];
    }

    int rows(int table) {
        return table < 0 || table >= tabs.size() ? -1 : tabs.get(table).rows.size();
    }

    private Val shown(Obj o, long index) {
        boolean tellsClock = o.table < 0 && o.tag == 67 && o.access == 1;
        return tellsClock ? new Val(67, clock.mod(BigInteger.ONE.shiftLeft(32)), List.of()) : o.vals.get(index);
    }

    long told(int object, int index) {
        Obj o = instance(object, index);
        if (o == null) {
            return -1;
        }
        Val val = shown(o, index);
        return o.tag == 4 || o.tag == 6 ? val.parts().size() : val.number().longValue();
    }

    long part(int object, int index, int i) {
        Obj o = instance(object, index);
        boolean there = o != null && i >= 0 && i < o.vals.get((long) index).parts().size();
        return there ? o.vals.get((long) index).parts().get(i) : -1;
    }

    int question() {
        answer = new byte[0];
        byte[] octets = useTape();
        try {
            read(octets);
        } catch (Drop drop) {
            counts[drop.cause]++;
            return 0;
        }
        List<Row> out = new ArrayList<>();
        int[] error = kind == 160 || kind == 161 ? askEach(out) : kind == 165 ? many(out) : checkSet(out);
        if (error[0] == 0 && write(error, out).length > limit) {
            error = new int[] {1, 0};
        }
        if (error[0] != 0) {
            out = error[0] == 1 && version == 1 ? List.of() : asked;
        }
        byte[] made = write(error, out);
        if (made.length > limit) {
            counts[5]++;
            return 0;
        }
        if (kind == 163 && error[0] == 0) {
            doSet();
        }
        answer = made;
        counts[6]++;
        counts[7] += error[0] != 0 ? 1 : 0;
        return answer.length;
    }

    private record Field(int tag, byte[] all, int from, int to) {
        int size() {
            return to - from;
        }

        byte[] content() {
            return Arrays.copyOfRange(all, from, to);
        }
    }

    private static Field field(byte[] all, int at, int end) throws Drop {
        if (at + 2 > end) {
            throw new Drop(1);
        }
        int first = all[at + 1] & 255;
        int from = at + 2;
        BigInteger length = BigInteger.valueOf(first);
        if (first >= 128) {
            int n = first - 128;
            if (n < 1 || n > 4 || from + n > end) {
                throw new Drop(1);
            }
            length = new BigInteger(1, Arrays.copyOfRange(all, from, from + n));
            from += n;
        }
        if (length.compareTo(BigInteger.valueOf(end - from)) > 0) {
            throw new Drop(1);
        }
        return new Field(all[at] & 255, all, from, from + length.intValueExact());
    }

    private static Field last(byte[] all, int at, Set<Integer> tags) throws Drop {
        Field found = field(all, at, all.length);
        if (!tags.contains(found.tag()) || found.to() != all.length) {
            throw new Drop(1);
        }
        return found;
    }

    private static Val val(Field f) throws Drop {
        byte[] content = f.content();
        switch (f.tag()) {
            case 2: case 65: case 66: case 67: case 70:
                return numberVal(f.tag(), content);
            case 4:
                if (content.length <= 40) {
                    return new Val(4, BigInteger.ZERO, parts(content));
                }
                break;
            case 5:
                if (content.length == 0) {
                    return new Val(5, BigInteger.ZERO, List.of());
                }
                break;
            case 6:
                return new Val(6, BigInteger.ZERO, nameOf(content));
            case 64:
                if (content.length == 4) {
                    return new Val(64, new BigInteger(1, content), List.of());
                }
                break;
            default:
                break;
        }
        throw new Drop(1);
    }

    private static Val numberVal(int tag, byte[] content) throws Drop {
        if (content.length < 1 || content.length > 9) {
            throw new Drop(1);
        }
        BigInteger n = new BigInteger(content);
        BigInteger least = tag == 2 ? BigInteger.ONE.shiftLeft(31).negate() : BigInteger.ZERO;
        BigInteger above = BigInteger.ONE.shiftLeft(tag == 2 ? 31 : tag == 70 ? 64 : 32);
        if (n.compareTo(least) < 0 || n.compareTo(above) >= 0) {
            throw new Drop(1);
        }
        return new Val(tag, n, List.of());
    }

    private static List<Long> nameOf(byte[] content) throws Drop {
        List<Long> numbers = new ArrayList<>();
        int at = 0;
        while (at < content.length) {
            if ((content[at] & 255) == 128) {
                throw new Drop(1);
            }
            BigInteger n = BigInteger.ZERO;
            boolean more = true;
            while (more) {
                if (at == content.length) {
                    throw new Drop(1);
                }
                n = n.shiftLeft(7).add(BigInteger.valueOf(content[at] & 127));
                more = content[at] < 0;
                at++;
            }
            if (n.compareTo(BigInteger.valueOf(numbers.isEmpty() ? 119 : MOST)) > 0) {
                throw new Drop(1);
            }
            if (numbers.isEmpty()) {
                numbers.add(n.longValue() / 40);
                numbers.add(n.longValue() % 40);
            } else {
                numbers.add(n.longValue());
            }
        }
        if (numbers.size() < 2 || numbers.size() > 16) {
            throw new Drop(1);
        }
        return numbers;
    }

    private static Field tagged(Field f, int tag) throws Drop {
        if (f.tag() != tag) {
            throw new Drop(1);
        }
        return f;
    }

    private void read(byte[] all) throws Drop {
        Field outer = last(all, 0, Set.of(48));
        Field versionField = tagged(field(all, outer.from(), all.length), 2);
        BigInteger told = val(versionField).number();
        if (told.signum() < 0 || told.bitLength() > 1) {
            throw new Drop(2);
        }
        version = told.intValue();
        Field name = tagged(field(all, versionField.to(), all.length), 4);
        val(name);
        com = coms.stream().filter(c -> Arrays.equals(c.name, name.content())).findFirst().orElse(null);
        if (com == null) {
            throw new Drop(3);
        }
        Field body = last(all, name.to(), version == 1 ? Set.of(160, 161, 163, 165) : Set.of(160, 161, 163));
        kind = body.tag();
        int at = body.from();
        int[] numbers = new int[3];
        for (int i = 0; i < 3; i++) {
            Field one = tagged(field(all, at, all.length), 2);
            numbers[i] = val(one).number().intValueExact();
            at = one.to();
        }
        id = numbers[0];
        s = numbers[1];
        t = numbers[2];
        at = last(all, at, Set.of(48)).from();
        asked = new ArrayList<>();
        while (at < all.length) {
            Field row = tagged(field(all, at, all.length), 48);
            Field rowName = tagged(field(all, row.from(), row.to()), 6);
            List<Long> numbersOfName = nameOf(rowName.content());
            Field value = field(all, rowName.to(), row.to());
            asked.add(new Row(numbersOfName, val(value)));
            if (value.to() != row.to() || asked.size() > 20) {
                throw new Drop(1);
            }
            at = row.to();
        }
    }

    private byte[] write(int[] error, List<Row> rows) {
        byte[] all = new byte[0];
        for (Row row : rows) {
            all = Ber.join(all, Ber.field(48, nameField(row.name()), valField(row.val())));
        }
        return Ber.field(48, Ber.integer(version), Ber.field(4, com.name),
                Ber.field(162, Ber.integer(id), Ber.integer(error[0]), Ber.integer(error[1]), Ber.field(48, all)));
    }

    private static byte[] nameField(List<Long> name) {
        return Ber.name(name.stream().mapToLong(Long::longValue).toArray());
    }

    private static byte[] valField(Val val) {
        switch (val.tag()) {
            case 4:
                byte[] octets = new byte[val.parts().size()];
                for (int i = 0; i < octets.length; i++) {
                    octets[i] = val.parts().get(i).byteValue();
                }
                return Ber.field(4, octets);
            case 6:
                return nameField(val.parts());
            case 64:
                int n = val.number().intValue();
                return Ber.address(n >>> 24, n >>> 16, n >>> 8, n);
            case 2: case 65: case 66: case 67: case 70:
                return Ber.field(val.tag(), val.number().toByteArray());
            default:
                return Ber.field(val.tag());
        }
    }

    private boolean inView(List<Long> name) {
        int longest = -1;
        boolean in = true;
        for (int i = 0; i < com.views.size(); i++) {
            if (begins(name, com.views.get(i)) && com.views.get(i).size() >= longest) {
                longest = com.views.get(i).size();
                in = com.ins.get(i);
            }
        }
        return in;
    }

    private TreeMap<List<Long>, Val> readable() {
        TreeMap<List<Long>, Val> all = new TreeMap<>(ORDER);
        for (Obj o : objs) {
            for (long index : o.vals.keySet()) {
                List<Long> name = new ArrayList<>(o.name);
                name.add(index);
                if (o.access > 0 && inView(name)) {
                    all.put(name, shown(o, index));
                }
            }
        }
        return all;
    }

    private static Val none(int tag) {
        return new Val(tag, BigInteger.ZERO, List.of());
    }

    private Row next(TreeMap<List<Long>, Val> all, List<Long> from) {
        Map.Entry<List<Long>, Val> found = all.higherEntry(from);
        return found == null ? new Row(from, none(130)) : new Row(found.getKey(), found.getValue());
    }

    private int[] askEach(List<Row> out) {
        TreeMap<List<Long>, Val> all = readable();
        for (Row row : asked) {
            Row told = kind == 161 ? next(all, row.name()) : get(all, row.name());
            out.add(told);
            if (version == 0 && told.val().tag() >= 128) {
                return new int[] {2, out.size()};
            }
        }
        return new int[] {0, 0};
    }

    private Row get(TreeMap<List<Long>, Val> all, List<Long> name) {
        if (all.containsKey(name)) {
            return new Row(name, all.get(name));
        }
        boolean known = objs.stream().anyMatch(o -> o.access > 0 && begins(name, o.name));
        return new Row(name, none(known && inView(name) ? 129 : 128));
    }

    private int[] many(List<Row> out) {
        TreeMap<List<Long>, Val> all = readable();
        int[] fine = {0, 0};
        int firsts = Math.min(Math.max(s, 0), asked.size());
        for (Row row : asked.subList(0, firsts)) {
            if (!addIfFits(out, next(all, row.name()))) {
                return fine;
            }
        }
        List<List<Long>> names = new ArrayList<>();
        asked.subList(firsts, asked.size()).forEach(row -> names.add(row.name()));
        for (int round = 0; round < t && !names.isEmpty(); round++) {
            boolean allEnd = true;
            for (int i = 0; i < names.size(); i++) {
                Row told = next(all, names.get(i));
                if (!addIfFits(out, told)) {
                    return fine;
                }
                names.set(i, told.name());
                allEnd &= told.val().tag() == 130;
            }
            if (allEnd) {
                return fine;
            }
        }
        return fine;
    }

    private boolean addIfFits(List<Row> out, Row row) {
        if (out.size() == 40) {
            return false;
        }
        out.add(row);
        if (write(new int[] {0, 0}, out).length > limit) {
            out.remove(out.size() - 1);
            return false;
        }
        return true;
    }

    private int[] checkSet(List<Row> out) {
        out.addAll(asked);
        if (!com.sets && !asked.isEmpty()) {
            counts[4]++;
            return new int[] {version == 0 ? 2 : 6, 1};
        }
        for (int i = 0; i < asked.size(); i++) {
            int fault = fault(i);
            if (fault != 0) {
                boolean isValue = Set.of(7, 8, 10, 11, 12).contains(fault);
                return new int[] {version == 1 ? fault : isValue ? 3 : fault == 13 ? 5 : 2, i + 1};
            }
        }
        return new int[] {0, 0};
    }

    private Obj objectOf(List<Long> name) {
        return objs.stream().filter(o -> begins(name, o.name)).findFirst().orElse(null);
    }

    /** The indexes of a table's rows that some rows of the message make. */
    private List<Long> made(int table, List<Row> rows) {
        List<Long> made = new ArrayList<>();
        for (Row row : rows) {
            Obj o = objectOf(row.name());
            boolean isStatus = o != null && o.status && o.table == table && row.name().size() == o.name.size() + 1;
            boolean makes = row.val().tag() == 2 && Set.of(4, 5).contains(row.val().number().intValue());
            if (isStatus && makes) {
                made.add(row.name().get(o.name.size()));
            }
        }
        return made;
    }

    private int fault(int place) {
        Row row = asked.get(place);
        Obj o = objectOf(row.name());
        if (!inView(row.name())) {
            return 6;
        }
        if (o == null || o.access != 2) {
            return 17;
        }
        if (row.val().tag() != o.tag) {
            return 7;
        }
        int octets = row.val().parts().size();
        if (o.tag == 4 && (octets < o.least || octets > o.most)) {
            return 8;
        }
        long n = row.val().number().longValue();
        boolean isBounded = o.tag == 2 || o.tag == 66 || o.tag == 67;
        boolean isOut = o.status ? !Set.of(1L, 2L, 4L, 5L, 6L).contains(n) : n < o.least || n > o.most;
        if (isBounded && isOut) {
            return 10;
        }
        List<Long> behind = row.name().subList(o.name.size(), row.name().size());
        if (behind.size() != 1) {
            return 11;
        }
        long index = behind.get(0);
        if (o.table < 0) {
            return index == 0 ? 0 : 11;
        }
        if (index < 1 || index > Integer.MAX_VALUE) {
            return 11;
        }
        Map<Long, Integer> rows = tabs.get(o.table).rows;
        if (!o.status) {
            return rows.containsKey(index) || made(o.table, asked).contains(index) ? 0 : 18;
        }
        List<Long> before = made(o.table, asked.subList(0, place));
        boolean makes = n == 4 || n == 5;
        if ((n <= 2 && !rows.containsKey(index)) || (makes && (rows.containsKey(index) || before.contains(index)))) {
            return 12;
        }
        return makes && rows.size() + before.size() >= 16 ? 13 : 0;
    }

    private void doSet() {
        for (Row row : asked) {
            Obj o = objectOf(row.name());
            int n = row.val().number().intValue();
            if (o.status && (n == 4 || n == 5)) {
                make(o.table, row.name().get(o.name.size()), n - 3);
            }
        }
        for (Row row : asked) {
            Obj o = objectOf(row.name());
            long index = row.name().get(o.name.size());
            int n = row.val().number().intValue();
            if (o.status && n == 6) {
                remove(o.table, index);
            } else if (o.vals.containsKey(index) && !(o.status && n > 2)) {
                o.vals.put(index, row.val());
            }
        }
    }
}
