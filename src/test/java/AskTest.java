/** Promise 16, asking: GET, NEXT and MANY, and what the views of promise 13 hide. */
public final class AskTest {
    private static final long MOST = 4294967295L;

    public static void main(String[] args) {
        everyTag();
        firstValues();
        getOfWhatIsNotThere();
        getByViews();
        viewOfTheLongest();
        nextThroughAll();
        nextFromOddPlaces();
        nextByViews();
        nextAtTheEnd();
        orderOfNames();
        manyFirstsAndRounds();
        manyEnds();
        manyOfForty();
        manyOddNumbers();
        Check.finish();
    }

    private static byte[] asked(long... name) {
        return Ber.pair(Ber.name(name), Ber.NULL);
    }

    private static byte[] told(byte[] value, long... name) {
        return Ber.pair(Ber.name(name), value);
    }

    /** The usual tree with some values and the rows 2 and 5. */
    private static Desk filled() {
        Desk desk = Desk.usual();
        desk.text(Desk.SCALAR_TEXT, 0, "hi");
        desk.agent.value(Desk.SCALAR_INTEGER, 0, 250);
        desk.agent.value(Desk.SCALAR_LONG, 0, -1);
        desk.agent.value(Desk.SCALAR_ADDRESS, 0, 0xC0A80001L);
        desk.identity(Desk.SCALAR_NAME, 0, 2, 39, 128, MOST);
        desk.agent.row(0, 5, true);
        desk.agent.row(0, 2, true);
        desk.agent.value(Desk.COLUMN_INTEGER, 5, 42);
        desk.agent.value(Desk.COLUMN_COUNTER, 2, MOST);
        desk.text(Desk.COLUMN_TEXT, 2, "two");
        desk.agent.tick(4294967299L);
        return desk;
    }

    private static void everyTag() {
        byte[] question = Ber.ask(1, Ber.GET, asked(1, 3, 6, 1, 1, 0), asked(1, 3, 6, 1, 2, 0), asked(1, 3, 6, 1, 3, 0),
                asked(1, 3, 6, 1, 4, 0), asked(1, 3, 6, 1, 5, 0), asked(1, 3, 6, 1, 6, 0), asked(1, 3, 6, 2, 1, 1, 5),
                asked(1, 3, 6, 2, 1, 2, 2), asked(1, 3, 6, 2, 1, 3, 2), asked(1, 3, 6, 2, 1, 4, 5));
        byte[] answer = Ber.answer(1, 0, 0, told(Ber.text("hi"), 1, 3, 6, 1, 1, 0), told(Ber.integer(250), 1, 3, 6, 1, 2, 0),
                told(Ber.number(67, 3), 1, 3, 6, 1, 3, 0), told(Ber.longCounter(-1), 1, 3, 6, 1, 4, 0),
                told(Ber.name(2, 39, 128, MOST), 1, 3, 6, 1, 5, 0), told(Ber.address(192, 168, 0, 1), 1, 3, 6, 1, 6, 0),
                told(Ber.integer(42), 1, 3, 6, 2, 1, 1, 5), told(Ber.text("two"), 1, 3, 6, 2, 1, 2, 2),
                told(Ber.number(65, MOST), 1, 3, 6, 2, 1, 3, 2), told(Ber.integer(1), 1, 3, 6, 2, 1, 4, 5));
        Desk desk = filled();
        Check.due("16: GET of every tag", desk.ask(question), answer);
        Check.due("18: given", desk.agent.count(6), 1);
        Check.due("18: with an error", desk.agent.count(7), 0);
        Desk hidden = new Desk();
        hidden.community("pub", false);
        hidden.scalar(66, 1, 5, 6, 2, 0, MOST);
        hidden.agent.value(0, 0, 2147483648L);
        Check.due("16: GET of a gauge", hidden.ask(Ber.ask(0, Ber.GET, asked(2, 0, MOST, 0))),
                Ber.answer(0, 0, 0, told(Ber.number(66, 2147483648L), 2, 0, MOST, 0)));
    }

    private static void firstValues() {
        Desk desk = Desk.usual();
        byte[] question = Ber.ask(0, Ber.GET, asked(1, 3, 6, 1, 1, 0), asked(1, 3, 6, 1, 2, 0), asked(1, 3, 6, 1, 3, 0),
                asked(1, 3, 6, 1, 4, 0), asked(1, 3, 6, 1, 5, 0), asked(1, 3, 6, 1, 6, 0));
        Check.due("16: GET of first values", desk.ask(question), Ber.answer(0, 0, 0, told(Ber.text(""), 1, 3, 6, 1, 1, 0),
                told(Ber.integer(0), 1, 3, 6, 1, 2, 0), told(Ber.number(67, 0), 1, 3, 6, 1, 3, 0),
                told(Ber.longCounter(0), 1, 3, 6, 1, 4, 0), told(Ber.name(0, 0), 1, 3, 6, 1, 5, 0),
                told(Ber.address(0, 0, 0, 0), 1, 3, 6, 1, 6, 0)));
    }

    /** One name is asked by GET in both VERSIONS; the value it was asked with comes back with an ERROR. */
    private static void get(String what, Desk one, Desk zero, byte[] value, long... name) {
        byte[] pair = Ber.pair(Ber.name(name), Ber.text("?"));
        Check.due("16: GET of " + what, one.ask(Ber.ask(1, Ber.GET, pair)), Ber.answer(1, 0, 0, told(value, name)));
        boolean isThere = value != Ber.NO_OBJECT && value != Ber.NO_INSTANCE;
        byte[] answer = isThere ? Ber.answer(0, 0, 0, told(value, name)) : Ber.answer(0, 2, 1, pair);
        Check.due("16: GET, version 0, of " + what, zero.ask(Ber.ask(0, Ber.GET, pair)), answer);
        Check.due("18: GET of " + what + ", errors", zero.agent.count(7), isThere ? 0 : 1);
        Check.due("18: GET of " + what + ", given", zero.agent.count(6), 1);
    }

    private static void get(String what, byte[] value, long... name) {
        get(what, filled(), filled(), value, name);
    }

    private static void getOfWhatIsNotThere() {
        get("an instance", Ber.integer(250), 1, 3, 6, 1, 2, 0);
        get("a scalar's name", Ber.NO_INSTANCE, 1, 3, 6, 1, 2);
        get("a scalar's 1", Ber.NO_INSTANCE, 1, 3, 6, 1, 2, 1);
        get("a scalar's 0.0", Ber.NO_INSTANCE, 1, 3, 6, 1, 2, 0, 0);
        get("a column's name", Ber.NO_INSTANCE, 1, 3, 6, 2, 1, 1);
        get("a row that is not there", Ber.NO_INSTANCE, 1, 3, 6, 2, 1, 1, 3);
        get("a column's 0", Ber.NO_INSTANCE, 1, 3, 6, 2, 1, 1, 0);
        get("a row and more", Ber.NO_INSTANCE, 1, 3, 6, 2, 1, 1, 5, 0);
        get("an index of 2^32 + 5 - 2^32", Ber.integer(42), 1, 3, 6, 2, 1, 1, 5);
        get("an index of 2^32 - 1", Ber.NO_INSTANCE, 1, 3, 6, 2, 1, 1, MOST);
        get("a table's name", Ber.NO_OBJECT, 1, 3, 6, 2, 1);
        get("no column", Ber.NO_OBJECT, 1, 3, 6, 2, 1, 5, 5);
        get("no scalar", Ber.NO_OBJECT, 1, 3, 6, 1, 8, 0);
        get("above all", Ber.NO_OBJECT, 1, 3);
        get("another first number", Ber.NO_OBJECT, 0, 3, 6, 1, 2, 0);
        get("another second number", Ber.NO_OBJECT, 1, 2, 6, 1, 2, 0);
        get("an object without access", Ber.NO_OBJECT, 1, 3, 6, 1, 7, 0);
        Desk desk = filled();
        byte[] bad = asked(1, 3, 6, 1, 2);
        byte[] good = asked(1, 3, 6, 1, 2, 0);
        Check.due("16: the first that is not there", desk.ask(Ber.ask(0, Ber.GET, good, bad, good, bad)),
                Ber.answer(0, 2, 2, good, bad, good, bad));
        byte[] wide = Ber.longField(48, 2, Ber.longField(6, 1, Ber.octets(43, 6, 1, 2)),
                Ber.longField(2, 3, Ber.octets(0, 0, 5)));
        Check.due("16: an error's rows are written shortest", filled().ask(Ber.ask(0, Ber.GET, wide)),
                Ber.answer(0, 2, 1, Ber.pair(Ber.name(1, 3, 6, 1, 2), Ber.integer(5))));
    }

    private static Desk hiding(boolean in, long... name) {
        Desk desk = filled();
        desk.view(0, in, name);
        return desk;
    }

    private static void getByViews() {
        get("a hidden instance", hiding(false, 1, 3, 6, 1, 2, 0), hiding(false, 1, 3, 6, 1, 2, 0), Ber.NO_OBJECT,
                1, 3, 6, 1, 2, 0);
        get("another instance", hiding(false, 1, 3, 6, 1, 2, 0), hiding(false, 1, 3, 6, 1, 2, 0), Ber.NO_INSTANCE,
                1, 3, 6, 1, 2, 1);
        get("a hidden subtree", hiding(false, 1, 3, 6, 1), hiding(false, 1, 3, 6, 1), Ber.NO_OBJECT, 1, 3, 6, 1, 2, 0);
        get("a hidden name that is not there", hiding(false, 1, 3), hiding(false, 1, 3), Ber.NO_OBJECT, 1, 3, 6, 1, 2, 1);
        get("another subtree", hiding(false, 1, 3, 6, 2), hiding(false, 1, 3, 6, 2), Ber.integer(250), 1, 3, 6, 1, 2, 0);
        get("what no row of the view has", hiding(true, 1, 3, 6, 2), hiding(true, 1, 3, 6, 2), Ber.integer(250),
                1, 3, 6, 1, 2, 0);
        Desk desk = hiding(false, 1, 3);
        byte[] question = Ber.message(1, "see", Ber.GET, new long[] {9, 1, 1}, asked(1, 3, 6, 1, 2, 0));
        Check.due("13: the view of another community", desk.ask(question),
                Ber.message(1, "see", Ber.ANSWER, new long[] {9, 0, 0}, told(Ber.integer(250), 1, 3, 6, 1, 2, 0)));
    }

    private static void viewOfTheLongest() {
        boolean[][] orders = {{true, false}, {false, true}};
        for (boolean[] order : orders) {
            Desk[] desks = {filled(), filled()};
            for (Desk desk : desks) {
                desk.view(0, order[0], 1, 3, 6, 1);
                desk.view(0, order[1], 1, 3, 6);
            }
            get("the longest first", desks[0], desks[1], order[0] ? Ber.integer(250) : Ber.NO_OBJECT, 1, 3, 6, 1, 2, 0);
            Desk[] others = {filled(), filled()};
            for (Desk desk : others) {
                desk.view(0, order[0], 1, 3);
                desk.view(0, order[1], 1, 3, 6, 1, 2, 0);
            }
            get("the longest last", others[0], others[1], order[1] ? Ber.integer(250) : Ber.NO_OBJECT, 1, 3, 6, 1, 2, 0);
            Desk[] twice = {filled(), filled()};
            for (Desk desk : twice) {
                desk.view(0, order[0], 1, 3, 6, 1);
                desk.view(0, order[1], 1, 3, 6, 1);
            }
            get("the same twice", twice[0], twice[1], order[1] ? Ber.integer(250) : Ber.NO_OBJECT, 1, 3, 6, 1, 2, 0);
        }
    }

    private static void next(String what, Desk desk, byte[] answerRow, long... from) {
        byte[] pair = Ber.pair(Ber.name(from), Ber.integer(9));
        Check.due("16: NEXT " + what, desk.ask(Ber.ask(1, Ber.NEXT, pair)), Ber.answer(1, 0, 0, answerRow));
    }

    private static void nextThroughAll() {
        long[][] order = {{1, 3, 6, 1, 1, 0}, {1, 3, 6, 1, 2, 0}, {1, 3, 6, 1, 3, 0}, {1, 3, 6, 1, 4, 0}, {1, 3, 6, 1, 5, 0},
            {1, 3, 6, 1, 6, 0}, {1, 3, 6, 2, 1, 1, 2}, {1, 3, 6, 2, 1, 1, 5}, {1, 3, 6, 2, 1, 2, 2}, {1, 3, 6, 2, 1, 2, 5},
            {1, 3, 6, 2, 1, 3, 2}, {1, 3, 6, 2, 1, 3, 5}, {1, 3, 6, 2, 1, 4, 2}, {1, 3, 6, 2, 1, 4, 5}};
        byte[][] values = {Ber.text("hi"), Ber.integer(250), Ber.number(67, 3), Ber.longCounter(-1),
            Ber.name(2, 39, 128, MOST), Ber.address(192, 168, 0, 1), Ber.integer(0), Ber.integer(42), Ber.text("two"),
            Ber.text(""), Ber.number(65, MOST), Ber.number(65, 0), Ber.integer(1), Ber.integer(1)};
        for (int i = 0; i + 1 < order.length; i++) {
            next("from instance " + i, filled(), told(values[i + 1], order[i + 1]), order[i]);
        }
        next("from the least name", filled(), told(values[0], order[0]), 0, 0);
        next("from the last instance", filled(), told(Ber.END, order[13]), order[13]);
    }

    private static void nextFromOddPlaces() {
        byte[] two = told(Ber.integer(0), 1, 3, 6, 2, 1, 1, 2);
        byte[] five = told(Ber.integer(42), 1, 3, 6, 2, 1, 1, 5);
        byte[] textTwo = told(Ber.text("two"), 1, 3, 6, 2, 1, 2, 2);
        next("from a scalar's name", filled(), told(Ber.integer(250), 1, 3, 6, 1, 2, 0), 1, 3, 6, 1, 2);
        next("from a scalar's 0.0", filled(), told(Ber.number(67, 3), 1, 3, 6, 1, 3, 0), 1, 3, 6, 1, 2, 0, 0);
        next("from a scalar's 7", filled(), told(Ber.number(67, 3), 1, 3, 6, 1, 3, 0), 1, 3, 6, 1, 2, 7);
        next("over an object without access", filled(), two, 1, 3, 6, 1, 6, 0);
        next("from an object without access", filled(), two, 1, 3, 6, 1, 7);
        next("from a table", filled(), two, 1, 3, 6, 2, 1);
        next("from a column", filled(), two, 1, 3, 6, 2, 1, 1);
        next("from a column's 0", filled(), two, 1, 3, 6, 2, 1, 1, 0);
        next("from 1.9", filled(), two, 1, 3, 6, 2, 1, 1, 1, 9);
        next("from 2.0", filled(), five, 1, 3, 6, 2, 1, 1, 2, 0);
        next("from 4", filled(), five, 1, 3, 6, 2, 1, 1, 4);
        next("from 6", filled(), textTwo, 1, 3, 6, 2, 1, 1, 6);
        next("from the greatest number", filled(), textTwo, 1, 3, 6, 2, 1, 1, MOST);
        next("from above", filled(), told(Ber.text("hi"), 1, 3, 6, 1, 1, 0), 1, 3, 6);
        next("from behind all", filled(), told(Ber.END, 2, 39), 2, 39);
        next("of nothing", withoutObjects(), told(Ber.END, 0, 0), 0, 0);
    }

    private static Desk withoutObjects() {
        Desk desk = new Desk();
        desk.community("pub", true);
        return desk;
    }

    private static void nextByViews() {
        Desk desk = filled();
        desk.view(0, false, 1, 3, 6, 1);
        desk.view(0, true, 1, 3, 6, 1, 4);
        desk.view(0, false, 1, 3, 6, 2, 1, 1, 2);
        next("over what is hidden", desk, told(Ber.longCounter(-1), 1, 3, 6, 1, 4, 0), 1, 3);
        next("over a hidden row", desk, told(Ber.integer(42), 1, 3, 6, 2, 1, 1, 5), 1, 3, 6, 1, 4, 0);
        Desk blind = filled();
        blind.view(0, false, 1, 3);
        next("of a blind community", blind, told(Ber.END, 1, 3), 1, 3);
        Desk last = Desk.usual();
        for (int i = 1; i <= 16; i++) {
            last.agent.row(0, i, true);
        }
        last.view(0, false, 1, 3, 6, 2, 1, 1);
        last.view(0, true, 1, 3, 6, 2, 1, 1, 16);
        next("over 15 hidden rows", last, told(Ber.integer(0), 1, 3, 6, 2, 1, 1, 16), 1, 3, 6, 2, 1, 1);
        next("from row 1's name", last, told(Ber.text(""), 1, 3, 6, 2, 1, 2, 1), 1, 3, 6, 2, 1, 1, 16);
        Desk half = filled();
        half.view(0, false, 1, 3, 6, 2, 1, 1);
        next("over a hidden column", half, told(Ber.text("two"), 1, 3, 6, 2, 1, 2, 2), 1, 3, 6, 1, 6, 0);
    }

    private static void nextAtTheEnd() {
        byte[] good = Ber.pair(Ber.name(1, 3), Ber.text("a"));
        byte[] bad = Ber.pair(Ber.name(1, 4), Ber.text("b"));
        Desk desk = filled();
        Check.due("16: NEXT, version 0, at the end", desk.ask(Ber.ask(0, Ber.NEXT, good, bad, good, bad)),
                Ber.answer(0, 2, 2, good, bad, good, bad));
        Check.due("18: NEXT, version 0, at the end", desk.agent.count(7), 1);
        byte[] hi = told(Ber.text("hi"), 1, 3, 6, 1, 1, 0);
        byte[] end = told(Ber.END, 1, 4);
        Check.due("16: NEXT with numbers that count for MANY alone",
                filled().ask(Ber.message(1, "pub", Ber.NEXT, new long[] {7, 1, 9}, good, good)), Ber.answer(1, 0, 0, hi, hi));
        Check.due("16: NEXT, version 1, at the end", filled().ask(Ber.ask(1, Ber.NEXT, good, bad, good)),
                Ber.answer(1, 0, 0, hi, end, hi));
        Check.due("16: NEXT, version 0", filled().ask(Ber.ask(0, Ber.NEXT, good, good)), Ber.answer(0, 0, 0, hi, hi));
    }

    private static void orderOfNames() {
        Desk desk = new Desk();
        desk.community("pub", false);
        long[][] names = {{2, 0}, {1, 3, 200}, {1, 3, 9, 9, 9}, {0, 39}, {1, 3, 10}, {1, 3, MOST}, {1, 3, 9, 10}, {0, 5, 1}};
        int[] order = {7, 3, 2, 6, 4, 1, 5, 0};
        for (long[] name : names) {
            desk.scalar(2, 1, 0, 1, name);
        }
        for (int i = 0; i < names.length; i++) {
            desk.agent.value(i, 0, i);
        }
        byte[][] rows = new byte[order.length + 1][];
        long[] last = null;
        for (int i = 0; i < order.length; i++) {
            last = java.util.Arrays.copyOf(names[order[i]], names[order[i]].length + 1);
            rows[i] = told(Ber.integer(order[i]), last);
        }
        rows[order.length] = told(Ber.END, last);
        Check.due("16: objects in the order of their names", desk.ask(Ber.many(0, 100, asked(0, 0))),
                Ber.answer(1, 0, 0, rows));
    }

    private static void manyFirstsAndRounds() {
        byte[] hi = told(Ber.text("hi"), 1, 3, 6, 1, 1, 0);
        byte[] two = told(Ber.integer(0), 1, 3, 6, 2, 1, 1, 2);
        byte[] five = told(Ber.integer(42), 1, 3, 6, 2, 1, 1, 5);
        byte[] count = told(Ber.number(65, MOST), 1, 3, 6, 2, 1, 3, 2);
        byte[] countFive = told(Ber.number(65, 0), 1, 3, 6, 2, 1, 3, 5);
        byte[][] names = {asked(1, 3), asked(1, 3, 6, 2, 1, 1), asked(1, 3, 6, 2, 1, 3)};
        many("1 and 2 rounds", 1, 2, names, hi, two, count, five, countFive);
        many("1 and 1 round", 1, 1, names, hi, two, count);
        many("1 and no round", 1, 0, names, hi);
        many("1 and rounds below 0", 1, -3, names, hi);
        many("all", 3, 5, names, hi, two, count);
        many("more than all", 1000, 5, names, hi, two, count);
        many("none and 1 round", 0, 1, names, hi, two, count);
        many("below 0 and 1 round", -1, 1, names, hi, two, count);
        many("none and none", 0, 0, names);
        many("2 and 3 rounds", 2, 3, names, hi, two, count, countFive, told(Ber.integer(1), 1, 3, 6, 2, 1, 4, 2));
        many("no names", 2, 3, new byte[0][]);
        many("no names and many rounds", 0, 2147483647L, new byte[0][]);
    }

    private static void many(String what, long s, long t, byte[][] names, byte[]... rows) {
        Desk desk = filled();
        Check.due("16: MANY, " + what, desk.ask(Ber.many(s, t, names)), Ber.answer(1, 0, 0, rows));
        Check.due("18: MANY, " + what + ", given", desk.agent.count(6), 1);
    }

    private static void manyEnds() {
        byte[] two = told(Ber.integer(1), 1, 3, 6, 2, 1, 4, 2);
        byte[] five = told(Ber.integer(1), 1, 3, 6, 2, 1, 4, 5);
        byte[] end = told(Ber.END, 1, 3, 6, 2, 1, 4, 5);
        byte[] far = told(Ber.END, 2, 5);
        byte[] status = asked(1, 3, 6, 2, 1, 4);
        byte[] statusTwo = asked(1, 3, 6, 2, 1, 4, 2);
        many("till the end", 0, 100, new byte[][] {status}, two, five, end);
        many("one ends before the other", 0, 100, new byte[][] {status, statusTwo}, two, five, five, end, end, end);
        many("the other before the one", 0, 100, new byte[][] {statusTwo, status}, five, two, end, five, end, end);
        many("ENDs over two rounds are not one round", 0, 100, new byte[][] {asked(2, 5), status},
                far, two, far, five, far, end);
        many("the first ones at the end", 1, 100, new byte[][] {asked(2, 5), statusTwo}, far, five, end);
        many("a first one at the end is told once", 2, 9, new byte[][] {asked(2, 5), asked(2, 5)}, far, far);
        many("at the end at once", 0, 100, new byte[][] {asked(2, 5), asked(2, 5)}, far, far);
        many("at the end in one round", 1, 1, new byte[][] {asked(2, 5), asked(2, 5)}, far, far);
        many("one at the end at once", 0, 100, new byte[][] {asked(2, 5)}, far);
        many("one at the end at once, behind a first one", 1, 100, new byte[][] {asked(2, 5), asked(2, 5)}, far, far);
        many("a first one, then two at the end", 1, 100, new byte[][] {statusTwo, asked(2, 5), asked(2, 5)}, five, far, far);
        many("three at the end", 0, 100, new byte[][] {asked(2, 5), asked(2, 5), asked(2, 5)}, far, far, far);
        many("three, one of them not yet", 0, 100, new byte[][] {asked(2, 5), asked(2, 5), statusTwo},
                far, far, five, far, far, end);
        many("a first one, then three", 1, 100, new byte[][] {statusTwo, status, asked(2, 5), asked(2, 5)},
                five, two, far, far, five, far, far, end, far, far);
        many("behind END in the next round", 0, 2, new byte[][] {asked(2, 5), statusTwo}, far, five, far, end);
    }

    private static void manyOfForty() {
        Desk desk = new Desk();
        desk.community("pub", false);
        for (int i = 0; i < 40; i++) {
            desk.scalar(2, 1, 0, 1, 1, 3, i);
        }
        desk.agent.limit(1000);
        byte[][] rows = new byte[40][];
        for (int i = 0; i < 40; i++) {
            rows[i] = told(Ber.integer(0), 1, 3, i, 0);
        }
        Check.due("16: MANY tells 40 rows", desk.feed(Ber.many(0, 1000, asked(0, 0))).agent.question(),
                Ber.answer(1, 0, 0, rows).length);
        byte[] all = Ber.answer(1, 0, 0, rows);
        Check.due("17: its last row", desk.agent.answer(all.length - 5), 39);
        byte[][] three = {asked(0, 0), asked(0, 0), asked(0, 0)};
        int octets = desk.feed(Ber.many(2, 1000, three)).agent.question();
        Check.due("16: MANY tells 40 rows in all", octets, all.length);
        Check.due("17: the last row of them", desk.agent.answer(all.length - 5), 37);
    }

    private static void manyOddNumbers() {
        byte[] hi = told(Ber.text("hi"), 1, 3, 6, 1, 1, 0);
        many("the least s", -2147483648L, 1, new byte[][] {asked(1, 3)}, hi);
        many("the greatest s", 2147483647L, 1, new byte[][] {asked(1, 3)}, hi);
        many("the least t", 1, -2147483648L, new byte[][] {asked(1, 3), asked(1, 3)}, hi);
        many("the greatest t", 0, 2147483647L, new byte[][] {asked(1, 3, 6, 2, 1, 4, 2), asked(1, 3, 6, 2, 1, 4, 2)},
                told(Ber.integer(1), 1, 3, 6, 2, 1, 4, 5), told(Ber.integer(1), 1, 3, 6, 2, 1, 4, 5),
                told(Ber.END, 1, 3, 6, 2, 1, 4, 5), told(Ber.END, 1, 3, 6, 2, 1, 4, 5));
    }
}
