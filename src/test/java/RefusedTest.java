import java.util.function.Consumer;
import java.util.function.Supplier;
import java.util.function.ToLongFunction;

/**
 * "A refused call changes nothing: -1 there is no such thing, -2 outside the range, -3 not in this state, -4 no room; the
 * first that fits." And what is used up whatever is answered. Of two agents that are alike, one is asked and one is not;
 * then all that can be seen of them has to be the same.
 */
public final class RefusedTest {
    private static final int NOTHING = 0;
    private static final int TAPE = 1;
    private static final int NAME = 2;
    private static final long LARGE = 4294967296L;

    public static void main(String[] args) {
        twinsAreAlike();
        feed();
        number();
        scalar();
        table();
        column();
        status();
        row();
        value();
        text();
        identity();
        community();
        view();
        limitAndTick();
        question();
        asking();
        usedUpByWhatIsDone();
        leftByWhatIsDone();
        Check.finish();
    }

    /** Some of everything, a tape of 4 octets and a name of 4 numbers. */
    private static Desk some() {
        Desk desk = Desk.usual();
        desk.agent.row(0, 5, true);
        desk.agent.row(0, 9, true);
        desk.agent.value(Desk.COLUMN_INTEGER, 5, 42);
        desk.text(Desk.COLUMN_TEXT, 9, "nine");
        desk.text(Desk.SCALAR_TEXT, 0, "hi");
        desk.identity(Desk.SCALAR_NAME, 0, 1, 3, 7);
        desk.view(0, false, 1, 3, 6, 1, 4);
        desk.agent.tick(77);
        desk.agent.limit(300);
        return asked(desk);
    }

    /** 40 objects, 4 tables, one with 6 columns and 16 rows and one with 6 columns, 8 communities, 8 rows of a view. */
    private static Desk full() {
        Desk desk = new Desk();
        for (int table = 0; table < 4; table++) {
            desk.table(1, 3, table);
        }
        for (int i = 0; i < 14; i++) {
            int last = 1 + i % 6;
            if (last == 6) {
                desk.agent.status(i / 6, last);
            } else {
                desk.agent.column(i / 6, last, last == 1 ? 4 : 2, 2, 0, 100);
            }
        }
        for (int i = 14; i < 40; i++) {
            desk.scalar(i == 14 ? 6 : 2, 1, 0, 9, 1, 4, i);
        }
        desk.agent.row(0, 7, true);
        for (int i = 1; i < 16; i++) {
            desk.agent.row(0, 100 + i, true);
        }
        desk.community("pub", true);
        for (int i = 1; i < 8; i++) {
            desk.community("c" + i, false);
        }
        for (int i = 0; i < 8; i++) {
            desk.view(0, i % 2 == 0, 1, 4, 20 + i);
        }
        return asked(desk);
    }

    private static Desk asked(Desk desk) {
        desk.ask(Ber.octets(1));
        desk.ask(Ber.ask(0, Ber.GET, Ber.pair(Ber.name(2, 5), Ber.NULL)));
        desk.feed("tape");
        return desk.hold(1, 3, 6, 9);
    }

    /** All that can be seen of an agent; at the end the tape and the name are used to see them. */
    private static String seen(Desk desk) {
        StringBuilder text = new StringBuilder();
        TreeAgent x = desk.agent;
        for (int i = -1; i <= 10; i++) {
            text.append(" count ").append(x.count(i)).append(" rows ").append(x.rows(i));
        }
        for (int object = 0; object < 41; object++) {
            for (int index : new int[] {0, 1, 5, 7, 9, 101, 115, 2147483647}) {
                text.append(" of ").append(object).append('.').append(index).append(' ').append(x.told(object, index));
                for (int i = 0; i < 4; i++) {
                    text.append(' ').append(x.part(object, index, i));
                }
            }
        }
        for (int i = -1; i < 60; i++) {
            text.append(" answer ").append(x.answer(i));
        }
        text.append(" clock ").append(x.tick(0)).append(" limit ").append(x.limit(1000));
        text.append(" name ").append(nameSeen(x)).append(" tape ").append(x.feed(1, 1));
        text.append(" given ").append(tapeSeen(x));
        byte[][] names = Ber.times(1, Ber.pair(Ber.name(1, 3), Ber.NULL));
        for (String community : new String[] {"pub", "see", "c1", "c7", "tape", "new"}) {
            for (int t : new int[] {20, 40}) {
                long[] numbers = {7, 0, t};
                text.append(' ').append(community).append(' ');
                text.append(Check.shown(desk.ask(Ber.message(1, community, Ber.MANY, numbers, names))));
            }
        }
        return text.toString();
    }

    /** How many numbers are at hand, and what a NAME object takes of them. */
    private static String nameSeen(TreeAgent x) {
        int size = x.number(0);
        int object = x.told(14, 0) == -1 ? Desk.SCALAR_NAME : 14;
        StringBuilder text = new StringBuilder().append(size).append(':').append(x.identity(object, 0));
        for (int i = 0; i < 16; i++) {
            text.append(' ').append(x.part(object, 0, i));
        }
        return text.toString();
    }

    /** What a TEXT object takes of the tape: a scalar of the one tree, a column's row of the other. */
    private static String tapeSeen(TreeAgent x) {
        boolean isFull = x.told(14, 0) != -1;
        int index = isFull ? 7 : 0;
        StringBuilder text = new StringBuilder().append(x.text(0, index));
        for (int i = 0; i < 40; i++) {
            text.append(' ').append(x.part(0, index, i));
        }
        return text.toString();
    }

    private static void twinsAreAlike() {
        Check.due("two that are alike", seen(some()), seen(some()));
        Check.due("two that are alike and full", seen(full()), seen(full()));
        Desk other = some();
        other.agent.feed(0, 1);
        Check.isTrue("an octet more is seen", !seen(other).equals(seen(some())));
        other = some();
        other.agent.number(0);
        Check.isTrue("a number more is seen", !seen(other).equals(seen(some())));
        other = full();
        other.agent.value(39, 0, 1);
        Check.isTrue("another value is seen", !seen(other).equals(seen(full())));
        Check.due("18: objects of the full one", full().agent.count(0), 40);
        Check.due("19: rows of the full one", full().agent.rows(0), 16);
    }

    private static void refused(String what, long answer, int uses, Supplier<Desk> twins, Consumer<Desk> before,
            ToLongFunction<TreeAgent> call) {
        Desk one = twins.get();
        Desk other = twins.get();
        before.accept(one);
        before.accept(other);
        Check.due(what, call.applyAsLong(one.agent), answer);
        if (uses == TAPE) {
            other.agent.feed(0, 0);
        }
        if (uses == NAME) {
            other.agent.number(-1);
        }
        Check.due(what + ", what is seen behind it", seen(one), seen(other));
    }

    private static void refused(String what, long answer, Supplier<Desk> twins, ToLongFunction<TreeAgent> call) {
        refused(what, answer, NOTHING, twins, desk -> { }, call);
    }

    private static void fill(Desk desk, int octets) {
        desk.feed(new byte[octets]);
    }

    private static void feed() {
        for (int n : new int[] {Integer.MIN_VALUE, -1, 9, 10, Integer.MAX_VALUE}) {
            refused("2: feed(1, " + n + ")", -2, RefusedTest::some, x -> x.feed(1, n));
            refused("2: feed(1, " + n + ") of a full one", -2, NOTHING, RefusedTest::some, desk -> fill(desk, 1200),
                    x -> x.feed(1, n));
        }
        for (int n = 1; n <= 8; n++) {
            int octets = n;
            refused("2: 1201 octets by " + n, -4, NOTHING, RefusedTest::some, desk -> fill(desk, 1201 - octets),
                    x -> x.feed(1, octets));
        }
        refused("2: 1208 octets", -4, NOTHING, RefusedTest::some, desk -> fill(desk, 1200), x -> x.feed(1, 8));
    }

    private static void number() {
        for (long v : new long[] {Long.MIN_VALUE, -2, LARGE, LARGE + 1, Long.MAX_VALUE}) {
            refused("3: number(" + v + ")", -2, RefusedTest::some, x -> x.number(v));
            refused("3: number(" + v + ") of 16", -2, NOTHING, RefusedTest::some, RefusedTest::holdSixteen, x -> x.number(v));
        }
        for (long v : new long[] {3, 39, 40, 4294967295L, LARGE}) {
            refused("3: the first " + v, -2, NOTHING, RefusedTest::some, desk -> desk.hold(), x -> x.number(v));
        }
        for (long v : new long[] {40, 4294967295L, LARGE}) {
            refused("3: the second " + v, -2, NOTHING, RefusedTest::some, desk -> desk.hold(2), x -> x.number(v));
        }
        for (long v : new long[] {0, 4294967295L}) {
            refused("3: a 17th", -4, NOTHING, RefusedTest::some, RefusedTest::holdSixteen, x -> x.number(v));
        }
    }

    private static void holdSixteen(Desk desk) {
        desk.hold(1, 9, 1, 1, 1, 1, 1, 1, 1, 1, 1, 1, 1, 1, 1, 1);
    }

    private static void named(String what, long answer, Supplier<Desk> twins, ToLongFunction<TreeAgent> call, long... name) {
        refused(what, answer, NAME, twins, desk -> desk.hold(name), call);
    }

    private static void scalar() {
        for (int tag : new int[] {-1, 0, 1, 3, 5, 7, 48, 63, 68, 69, 71, 128, 255, 256 + 2}) {
            named("4: tag " + tag, -2, RefusedTest::some, x -> x.scalar(tag, 1, 0, 1), 1, 4);
        }
        for (int access : new int[] {Integer.MIN_VALUE, -1, 3, Integer.MAX_VALUE}) {
            named("4: access " + access, -2, RefusedTest::some, x -> x.scalar(2, access, 0, 1), 1, 4);
        }
        named("4: least above most", -2, RefusedTest::some, x -> x.scalar(2, 1, 1, 0), 1, 4);
        named("4: least far above most", -2, RefusedTest::some, x -> x.scalar(64, 1, Long.MAX_VALUE, Long.MIN_VALUE), 1, 4);
        named("4: no name", -2, RefusedTest::some, x -> x.scalar(2, 1, 0, 1));
        named("4: a name of 1", -2, RefusedTest::some, x -> x.scalar(2, 1, 0, 1), 2);
        refused("4: a name of 16", -2, NAME, RefusedTest::some, RefusedTest::holdSixteen, x -> x.scalar(2, 1, 0, 1));
        long[][] taken = {{1, 3, 6, 1, 2}, {1, 3, 6, 1, 2, 0}, {1, 3, 6, 1}, {1, 3, 6, 2, 1}, {1, 3, 6, 2}, {1, 3, 6, 2, 1, 1},
            {1, 3, 6, 2, 1, 9}, {1, 3, 6, 2, 1, 4, 1}, {1, 3}};
        for (long[] name : taken) {
            named("4: a name that is taken", -3, RefusedTest::some, x -> x.scalar(2, 1, 0, 1), name);
            named("4: -2 before -3, the tag", -2, RefusedTest::some, x -> x.scalar(3, 1, 0, 1), name);
            named("4: -2 before -3, the access", -2, RefusedTest::some, x -> x.scalar(2, 3, 0, 1), name);
            named("4: -2 before -3, the bounds", -2, RefusedTest::some, x -> x.scalar(2, 1, 1, 0), name);
        }
        named("4: a 41st", -4, RefusedTest::full, x -> x.scalar(2, 1, 0, 1), 2, 5);
        named("4: -3 before -4", -3, RefusedTest::full, x -> x.scalar(2, 1, 0, 1), 1, 4, 39);
        named("4: -2 before -4", -2, RefusedTest::full, x -> x.scalar(2, 1, 1, 0), 2, 5);
        named("4: -2 before -4, the name", -2, RefusedTest::full, x -> x.scalar(2, 1, 0, 0), 2);
    }

    private static void table() {
        named("5: no name", -2, RefusedTest::some, TreeAgent::table);
        named("5: a name of 1", -2, RefusedTest::some, TreeAgent::table, 1);
        named("5: a name of 15", -2, RefusedTest::some, TreeAgent::table, 1, 4, 1, 1, 1, 1, 1, 1, 1, 1, 1, 1, 1, 1, 1);
        refused("5: a name of 16", -2, NAME, RefusedTest::some, RefusedTest::holdSixteen, TreeAgent::table);
        named("5: a name of 15 that is taken", -2, RefusedTest::some, TreeAgent::table,
                1, 3, 6, 2, 1, 1, 1, 1, 1, 1, 1, 1, 1, 1, 1);
        for (long[] name : new long[][] {{1, 3, 6, 1, 2}, {1, 3, 6, 1, 2, 0}, {1, 3, 6, 1}, {1, 3, 6, 2, 1}, {1, 3, 6, 2},
            {1, 3, 6, 2, 1, 1}, {1, 3, 6, 2, 1, 9}}) {
            named("5: a name that is taken", -3, RefusedTest::some, TreeAgent::table, name);
        }
        named("5: a fifth", -4, RefusedTest::full, TreeAgent::table, 2, 5);
        named("5: -3 before -4", -3, RefusedTest::full, TreeAgent::table, 1, 3, 3);
        named("5: -2 before -4", -2, RefusedTest::full, TreeAgent::table, 2);
    }

    private static void column() {
        for (int table : new int[] {Integer.MIN_VALUE, -1, 1, 4, Integer.MAX_VALUE}) {
            refused("6: table " + table, -1, RefusedTest::some, x -> x.column(table, 9, 2, 1, 0, 1));
            refused("6: -1 before -2", -1, RefusedTest::some, x -> x.column(table, 0, 3, 9, 0, 1));
        }
        for (int last : new int[] {Integer.MIN_VALUE, -1, 0}) {
            refused("6: last " + last, -2, RefusedTest::some, x -> x.column(0, last, 2, 1, 0, 1));
        }
        for (int tag : new int[] {0, 3, 5, 63, 68, 69, 71}) {
            refused("6: tag " + tag, -2, RefusedTest::some, x -> x.column(0, 9, tag, 1, 0, 1));
        }
        refused("6: access -1", -2, RefusedTest::some, x -> x.column(0, 9, 2, -1, 0, 1));
        refused("6: access 3", -2, RefusedTest::some, x -> x.column(0, 9, 2, 3, 0, 1));
        refused("6: there are rows", -3, RefusedTest::some, x -> x.column(0, 9, 2, 1, 0, 1));
        refused("6: there is such a column", -3, RefusedTest::full, x -> x.column(2, 1, 2, 1, 0, 1));
        refused("6: -2 before -3", -2, RefusedTest::full, x -> x.column(2, 1, 3, 1, 0, 1));
        refused("6: -2 before -3, with rows", -2, RefusedTest::some, x -> x.column(0, 0, 2, 1, 0, 1));
        refused("6: -3 before -4, such a column of 6", -3, RefusedTest::full, x -> x.column(1, 6, 2, 1, 0, 1));
        refused("6: -3 before -4, rows and 6 columns", -3, RefusedTest::full, x -> x.column(0, 9, 2, 1, 0, 1));
        refused("6: -2 before -4", -2, RefusedTest::full, x -> x.column(1, 9, 2, 3, 0, 1));
        refused("6: a seventh", -4, RefusedTest::full, x -> x.column(1, 9, 2, 1, 0, 1));
        refused("6: a 41st object", -4, RefusedTest::full, x -> x.column(3, 9, 2, 1, 0, 1));
    }

    private static void status() {
        for (int table : new int[] {Integer.MIN_VALUE, -1, 1, 4, Integer.MAX_VALUE}) {
            refused("7: table " + table, -1, RefusedTest::some, x -> x.status(table, 9));
            refused("7: -1 before -2", -1, RefusedTest::some, x -> x.status(table, 0));
        }
        for (int last : new int[] {Integer.MIN_VALUE, -1, 0}) {
            refused("7: last " + last + ", -2 before -3", -2, RefusedTest::some, x -> x.status(0, last));
            refused("7: last " + last + ", -2 before -4", -2, RefusedTest::full, x -> x.status(3, last));
        }
        refused("7: there are rows, and one", -3, RefusedTest::some, x -> x.status(0, 9));
        refused("7: there is one, -3 before -4", -3, RefusedTest::full, x -> x.status(1, 9));
        refused("7: there is such a column, -3 before -4", -3, RefusedTest::full, x -> x.status(2, 1));
        refused("7: there are rows, -3 before -4", -3, NOTHING, RefusedTest::full, desk -> desk.agent.row(3, 1, true),
                x -> x.status(3, 1));
        refused("7: a 41st object", -4, RefusedTest::full, x -> x.status(2, 9));
    }

    private static void row() {
        for (boolean there : new boolean[] {true, false}) {
            for (int table : new int[] {Integer.MIN_VALUE, -1, 1, 4, Integer.MAX_VALUE}) {
                refused("8: table " + table, -1, RefusedTest::some, x -> x.row(table, 5, there));
                refused("8: -1 before -2", -1, RefusedTest::some, x -> x.row(table, 0, there));
            }
            for (int index : new int[] {Integer.MIN_VALUE, -1, 0}) {
                refused("8: index " + index, -2, RefusedTest::some, x -> x.row(0, index, there));
                refused("8: -2 before -4", -2, RefusedTest::full, x -> x.row(0, index, there));
            }
        }
        refused("8: a 17th", -4, RefusedTest::full, x -> x.row(0, 8, true));
        refused("8: a 17th, the greatest index", -4, RefusedTest::full, x -> x.row(0, 2147483647, true));
        refused("8: one that is there already", 0, RefusedTest::some, x -> x.row(0, 5, true));
        refused("8: one of 16 that is there already", 0, RefusedTest::full, x -> x.row(0, 115, true));
        refused("8: one that is not there", 0, RefusedTest::some, x -> x.row(0, 6, false));
        refused("8: one that is not there, of 16", 0, RefusedTest::full, x -> x.row(0, 8, false));
        Supplier<Desk> waiting = () -> asked(waiting(some()));
        refused("8: a WAITING one that is there already", 0, waiting, x -> x.row(0, 5, true));
    }

    private static Desk waiting(Desk desk) {
        desk.ask(Ber.ask(1, Ber.SET, Ber.pair(Ber.name(1, 3, 6, 2, 1, 4, 5), Ber.integer(2))));
        return desk;
    }

    private static void value() {
        for (int object : new int[] {Integer.MIN_VALUE, -1, 11, 40, Integer.MAX_VALUE}) {
            refused("9: object " + object, -1, RefusedTest::some, x -> x.value(object, 0, 1));
        }
        refused("9: object 40 of 40", -1, RefusedTest::full, x -> x.value(40, 0, 1));
        int[] objects = {Desk.SCALAR_TEXT, Desk.SCALAR_NAME, Desk.SCALAR_INTEGER, Desk.SCALAR_INTEGER, Desk.COLUMN_INTEGER,
            Desk.COLUMN_INTEGER, Desk.COLUMN_INTEGER, Desk.COLUMN_TEXT, Desk.COLUMN_STATUS, Desk.COLUMN_STATUS};
        int[] indexes = {0, 0, 1, -1, 0, 6, -5, 5, 5, 6};
        for (int i = 0; i < objects.length; i++) {
            int object = objects[i];
            int index = indexes[i];
            refused("9: instance " + object + "." + index, -1, RefusedTest::some, x -> x.value(object, index, 1));
            refused("9: -1 before -2", -1, RefusedTest::some, x -> x.value(object, index, 1L << 40));
        }
        for (long v : new long[] {Long.MIN_VALUE, -2147483649L, 2147483648L, Long.MAX_VALUE}) {
            refused("9: an integer of " + v, -2, RefusedTest::some, x -> x.value(Desk.COLUMN_INTEGER, 5, v));
        }
        for (long v : new long[] {Long.MIN_VALUE, -1, LARGE, Long.MAX_VALUE}) {
            refused("9: a counter of " + v, -2, RefusedTest::some, x -> x.value(Desk.COLUMN_COUNTER, 9, v));
            refused("9: a gauge of " + v, -2, RefusedTest::some, x -> x.value(Desk.HIDDEN, 0, v));
            refused("9: ticks of " + v, -2, RefusedTest::some, x -> x.value(Desk.CLOCK, 0, v));
        }
    }

    private static void text() {
        int[] objects = {-1, 11, Integer.MAX_VALUE, Desk.SCALAR_INTEGER, Desk.SCALAR_NAME, Desk.SCALAR_ADDRESS, Desk.SCALAR_TEXT,
            Desk.SCALAR_TEXT, Desk.COLUMN_TEXT, Desk.COLUMN_TEXT, Desk.COLUMN_STATUS};
        int[] indexes = {0, 0, 0, 0, 0, 0, 1, -1, 0, 6, 5};
        for (int i = 0; i < objects.length; i++) {
            int object = objects[i];
            int index = indexes[i];
            refused("10: instance " + object + "." + index, -1, TAPE, RefusedTest::some, desk -> { },
                    x -> x.text(object, index));
            refused("10: -1 before -2", -1, TAPE, RefusedTest::some, desk -> fill(desk, 41), x -> x.text(object, index));
        }
        for (int octets : new int[] {41, 42, 1200}) {
            refused("10: " + octets + " octets", -2, TAPE, RefusedTest::some, desk -> fill(desk, octets),
                    x -> x.text(Desk.SCALAR_TEXT, 0));
            refused("10: " + octets + " octets of a row", -2, TAPE, RefusedTest::some, desk -> fill(desk, octets),
                    x -> x.text(Desk.COLUMN_TEXT, 9));
        }
    }

    private static void identity() {
        int[] objects = {-1, 11, Integer.MAX_VALUE, Desk.SCALAR_INTEGER, Desk.SCALAR_TEXT, Desk.SCALAR_NAME, Desk.SCALAR_NAME,
            Desk.COLUMN_TEXT};
        int[] indexes = {0, 0, 0, 0, 0, 1, -1, 5};
        for (int i = 0; i < objects.length; i++) {
            int object = objects[i];
            int index = indexes[i];
            named("11: instance " + object + "." + index, -1, RefusedTest::some, x -> x.identity(object, index), 1, 3);
            named("11: -1 before -2", -1, RefusedTest::some, x -> x.identity(object, index), 1);
        }
        named("11: a name of none", -2, RefusedTest::some, x -> x.identity(Desk.SCALAR_NAME, 0));
        named("11: a name of 1", -2, RefusedTest::some, x -> x.identity(Desk.SCALAR_NAME, 0), 1);
    }

    private static void fed(String what, long answer, Supplier<Desk> twins, String tape) {
        for (boolean sets : new boolean[] {true, false}) {
            refused(what, answer, TAPE, twins, desk -> desk.feed(tape), x -> x.community(sets));
        }
    }

    private static void community() {
        for (int octets : new int[] {41, 42, 1200}) {
            fed("12: " + octets + " octets", -2, RefusedTest::some, "c".repeat(octets));
            fed("12: -2 before -4", -2, RefusedTest::full, "c".repeat(octets));
        }
        fed("12: there is such a one", -3, RefusedTest::some, "see");
        fed("12: there is such a one, -3 before -4", -3, RefusedTest::full, "c7");
        fed("12: a ninth", -4, RefusedTest::full, "new");
        fed("12: a ninth without octets", -4, RefusedTest::full, "");
        fed("12: a ninth of 40", -4, RefusedTest::full, "c".repeat(40));
    }

    private static void view() {
        for (boolean in : new boolean[] {true, false}) {
            for (int community : new int[] {Integer.MIN_VALUE, -1, 2, 7, 8, Integer.MAX_VALUE}) {
                named("13: community " + community, -1, RefusedTest::some, x -> x.view(community, in), 1, 3);
                named("13: -1 before -2", -1, RefusedTest::some, x -> x.view(community, in), 1);
            }
            named("13: community 8 of 8", -1, RefusedTest::full, x -> x.view(8, in), 1, 3);
            named("13: a name of none", -2, RefusedTest::some, x -> x.view(0, in));
            named("13: a name of 1", -2, RefusedTest::some, x -> x.view(0, in), 1);
            named("13: -2 before -4", -2, RefusedTest::full, x -> x.view(0, in), 1);
            named("13: a ninth row", -4, RefusedTest::full, x -> x.view(0, in), 1, 3);
            named("13: a ninth row that is there", -4, RefusedTest::full, x -> x.view(0, in), 1, 4, 20);
        }
    }

    private static void limitAndTick() {
        for (int n : new int[] {Integer.MIN_VALUE, -1, 0, 99, 1001, Integer.MAX_VALUE}) {
            refused("14: limit(" + n + ")", -2, RefusedTest::some, x -> x.limit(n));
        }
        for (long n : new long[] {Long.MIN_VALUE, -1, (1L << 62) - 76, 1L << 62, Long.MAX_VALUE}) {
            refused("15: tick(" + n + ")", -2, RefusedTest::some, x -> x.tick(n));
        }
    }

    /** A question that is dropped or has an ERROR sets nothing; that it is counted, and what is answered, are other tests'. */
    private static void question() {
        byte[] name = Ber.name(1, 3, 6, 1, 2, 0);
        byte[] good = Ber.pair(name, Ber.integer(9));
        byte[][] questions = {Ber.join(Ber.ask(1, Ber.SET, good), Ber.octets(0)),
            Ber.message(2, "pub", Ber.SET, new long[] {7, 0, 0}, good), Ber.message(1, "no", Ber.SET, new long[] {7, 0, 0}, good),
            Ber.message(1, "see", Ber.SET, new long[] {7, 0, 0}, good),
            Ber.ask(1, Ber.SET, good, Ber.pair(Ber.name(1, 3, 6, 2, 1, 4, 6), Ber.integer(4)), Ber.pair(name, Ber.NULL)),
            Ber.ask(0, Ber.SET, Ber.pair(Ber.name(1, 3, 6, 2, 1, 4, 5), Ber.integer(6)), Ber.pair(name, Ber.NULL)),
            Ber.ask(0, Ber.SET, Ber.times(20, good)), Ber.ask(1, Ber.SET, Ber.times(20, good))};
        for (byte[] octets : questions) {
            Desk one = some();
            // twenty rows do not fit, and the others do
            one.agent.limit(200);
            one.ask(octets);
            Check.due("20: nothing is set", one.agent.told(Desk.SCALAR_INTEGER, 0), 0);
            Check.due("19: no row is made or gone", one.agent.rows(0), 2);
            Check.due("16: the tape is used up", one.agent.feed(0, 1), 1);
            Check.due("3: the name is not", one.agent.number(0), 5);
        }
    }

    /** What only asks changes nothing, whatever it is asked. */
    private static void asking() {
        for (int i : new int[] {Integer.MIN_VALUE, -1, 41, 60, Integer.MAX_VALUE}) {
            refused("17: answer(" + i + ")", -1, RefusedTest::some, x -> x.answer(i));
            refused("18: count(" + i + ")", -2, RefusedTest::some, x -> x.count(i));
            refused("19: rows(" + i + ")", -1, RefusedTest::some, x -> x.rows(i));
            refused("20: told(" + i + ", 0)", -1, RefusedTest::some, x -> x.told(i, 0));
            refused("20: told(1, " + i + ")", -1, RefusedTest::some, x -> x.told(1, i));
            refused("21: part(0, 0, " + i + ")", -1, RefusedTest::some, x -> x.part(0, 0, i));
            refused("21: part(0, " + i + ", 0)", -1, RefusedTest::some, x -> x.part(0, i, 0));
            refused("21: part(" + i + ", 0, 0)", -1, RefusedTest::some, x -> x.part(i, 0, 0));
        }
    }

    /** "THE TAPE is used up by question(), text(), community() ...; the NAME at hand by scalar(), table(), view(), identity()". */
    private static void usedUpByWhatIsDone() {
        usedUp("10: text", TAPE, desk -> { }, x -> x.text(Desk.SCALAR_TEXT, 0), 4);
        usedUp("12: community", TAPE, desk -> { }, x -> x.community(true), 2);
        byte[] question = Ber.ask(1, Ber.GET);
        usedUp("16: question", TAPE, desk -> desk.feed(question), TreeAgent::question, Ber.answer(1, 0, 0).length);
        usedUp("16: a dropped question", TAPE, desk -> { }, TreeAgent::question, 0);
        usedUp("4: scalar", NAME, desk -> { }, x -> x.scalar(2, 1, 0, 1), 11);
        usedUp("5: table", NAME, desk -> { }, TreeAgent::table, 1);
        usedUp("11: identity", NAME, desk -> { }, x -> x.identity(Desk.SCALAR_NAME, 0), 4);
        usedUp("13: view", NAME, desk -> { }, x -> x.view(0, true), 2);
    }

    private static void leftByWhatIsDone() {
        Supplier<Desk> open = () -> {
            Desk desk = some();
            desk.agent.row(0, 5, false);
            desk.agent.row(0, 9, false);
            return desk;
        };
        Check.due("6: column", leaves(open.get(), x -> x.column(0, 9, 2, 1, 0, 1), 11), "5 5");
        Desk table = open.get();
        table.table(2, 5);
        table.hold(1, 3, 6, 9);
        Check.due("7: status", leaves(table, x -> x.status(1, 9), 11), "5 5");
        Check.due("8: row", leaves(some(), x -> x.row(0, 6, true), 1), "5 5");
        Check.due("8: row, away", leaves(some(), x -> x.row(0, 5, false), 1), "5 5");
        Check.due("9: value", leaves(some(), x -> x.value(Desk.SCALAR_INTEGER, 0, 8), 1), "5 5");
        Check.due("14: limit", leaves(some(), x -> x.limit(200), 300), "5 5");
        Check.due("15: tick", leaves(some(), x -> x.tick(3), 80), "5 5");
    }

    private static String leaves(Desk desk, ToLongFunction<TreeAgent> call, long answer) {
        Check.due("a call that uses up nothing", call.applyAsLong(desk.agent), answer);
        return desk.agent.feed(0, 1) + " " + desk.agent.number(0);
    }

    private static void usedUp(String what, int uses, Consumer<Desk> before, ToLongFunction<TreeAgent> call, long answer) {
        Desk desk = some();
        before.accept(desk);
        Check.due(what, call.applyAsLong(desk.agent), answer);
        if (uses == TAPE) {
            Check.due(what + ", the tape", desk.agent.feed(0, 1), 1);
            Check.due(what + ", the name", desk.agent.number(0), 5);
        } else {
            Check.due(what + ", the tape", desk.agent.feed(0, 1), 5);
            Check.due(what + ", the name", desk.agent.number(0), 1);
        }
    }
}
