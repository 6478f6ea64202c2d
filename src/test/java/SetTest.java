/** Promise 16, setting: each ERROR in its order, all or nothing, and rows made and gone by their STATUS. */
public final class SetTest {
    private static final long MOST = 4294967295L;
    private static final long[] TEXT = {1, 3, 6, 1, 1, 0};
    private static final long[] INTEGER = {1, 3, 6, 1, 2, 0};

    public static void main(String[] args) {
        everyTag();
        whoMayNotSet();
        views();
        notSettable();
        wrongTags();
        textBounds();
        numberBounds();
        unboundedTags();
        statusValues();
        behindTheName();
        rowsThatAreNotThere();
        statusAndRows();
        makingTwice();
        roomForRows();
        firstOfThese();
        allOrNothing();
        orderOfDoing();
        goingRows();
        twoTables();
        boundsOfTexts();
        boundsOfNumbers();
        boundsTurnedRound();
        statusOfEachNumber();
        indexesOfEachColumn();
        eachBeforeTheNext();
        sixteenRowsAtOnce();
        takenAwayByRowsBefore();
        otherRowsBefore();
        rowsOfTheQuestionBefore();
        Check.finish();
    }

    private static byte[] pair(byte[] value, long... name) {
        return Ber.pair(Ber.name(name), value);
    }

    private static byte[] status(long index, long v) {
        return pair(Ber.integer(v), 1, 3, 6, 2, 1, 4, index);
    }

    private static byte[] number(long index, long v) {
        return pair(Ber.integer(v), 1, 3, 6, 2, 1, 1, index);
    }

    private static byte[] word(long index, String v) {
        return pair(Ber.text(v), 1, 3, 6, 2, 1, 2, index);
    }

    /** The rows 5 and 9 are there. */
    private static Desk withRows() {
        Desk desk = Desk.usual();
        desk.agent.row(0, 5, true);
        desk.agent.row(0, 9, true);
        return desk;
    }

    private static Desk done(String what, Desk desk, byte[]... pairs) {
        Check.due("16: SET, " + what, desk.ask(Ber.ask(1, Ber.SET, pairs)), Ber.answer(1, 0, 0, pairs));
        Check.due("18: SET, " + what + ", with an error", desk.agent.count(7), 0);
        return desk;
    }

    private static int inVersion0(int error) {
        switch (error) {
            case 7: case 8: case 10: case 11: case 12:
                return 3;
            case 13:
                return 5;
            default:
                return 2;
        }
    }

    /** The same refusal in both VERSIONS, on two desks that are alike. */
    private static void refused(String what, Desk one, Desk zero, int error, int index, byte[]... pairs) {
        Check.due("16: SET, " + what, one.ask(Ber.ask(1, Ber.SET, pairs)), Ber.answer(1, error, index, pairs));
        Check.due("16: SET, version 0, " + what, zero.ask(Ber.ask(0, Ber.SET, pairs)),
                Ber.answer(0, inVersion0(error), index, pairs));
        for (Desk desk : new Desk[] {one, zero}) {
            Check.due("18: SET, " + what + ", given", desk.agent.count(6), 1);
            Check.due("18: SET, " + what + ", with an error", desk.agent.count(7), 1);
        }
    }

    private static void refused(String what, int error, int index, byte[]... pairs) {
        refused(what, withRows(), withRows(), error, index, pairs);
    }

    private static void everyTag() {
        TreeAgent x = done("every tag", withRows(), pair(Ber.text("hello world."), TEXT), pair(Ber.integer(-5), INTEGER),
                pair(Ber.longCounter(-2), 1, 3, 6, 1, 4, 0), pair(Ber.name(2, 1, MOST), 1, 3, 6, 1, 5, 0),
                pair(Ber.address(255, 0, 0, 1), 1, 3, 6, 1, 6, 0), number(5, 100), word(9, "x")).agent;
        Check.due("20: the text", x.told(Desk.SCALAR_TEXT, 0), 12);
        Check.due("21: its last octet", x.part(Desk.SCALAR_TEXT, 0, 11), '.');
        Check.due("20: the integer", x.told(Desk.SCALAR_INTEGER, 0), -5);
        Check.due("20: the long counter", x.told(Desk.SCALAR_LONG, 0), -2);
        Check.due("20: the name", x.told(Desk.SCALAR_NAME, 0), 3);
        Check.due("21: its last number", x.part(Desk.SCALAR_NAME, 0, 2), MOST);
        Check.due("20: the address", x.told(Desk.SCALAR_ADDRESS, 0), 0xFF000001L);
        Check.due("20: of row 5", x.told(Desk.COLUMN_INTEGER, 5), 100);
        Check.due("20: of row 9", x.told(Desk.COLUMN_INTEGER, 9), 0);
        Check.due("20: the text of row 9", x.told(Desk.COLUMN_TEXT, 9), 1);
        Desk zero = withRows();
        Check.due("16: SET, version 0", zero.ask(Ber.ask(0, Ber.SET, pair(Ber.integer(3), INTEGER))),
                Ber.answer(0, 0, 0, pair(Ber.integer(3), INTEGER)));
        Check.due("20: version 0", zero.agent.told(Desk.SCALAR_INTEGER, 0), 3);
        byte[] wide = Ber.longField(48, 1, Ber.name(INTEGER), Ber.field(2, Ber.octets(0, 0, 7)));
        Check.due("16: SET, the rows are written shortest", withRows().ask(Ber.ask(1, Ber.SET, wide)),
                Ber.answer(1, 0, 0, pair(Ber.integer(7), INTEGER)));
    }

    private static void whoMayNotSet() {
        for (int version = 0; version <= 1; version++) {
            Desk desk = withRows();
            byte[] row = pair(Ber.integer(3), INTEGER);
            byte[] bad = pair(Ber.integer(3), 1, 9);
            byte[] question = Ber.message(version, "see", Ber.SET, new long[] {7, 0, 0}, bad, row);
            Check.due("16: SET by one who may not", desk.ask(question),
                    Ber.message(version, "see", Ber.ANSWER, new long[] {7, version == 0 ? 2 : 6, 1}, bad, row));
            int[] counts = {0, 0, 0, 1, 0, 1, 1};
            for (int i = 0; i < counts.length; i++) {
                Check.due("18: SET by one who may not, count(" + (i + 1) + ")", desk.agent.count(i + 1), counts[i]);
            }
            Check.due("20: nothing was set", desk.agent.told(Desk.SCALAR_INTEGER, 0), 0);
            Desk other = withRows();
            Check.due("16: SET of no rows by one who may not",
                    other.ask(Ber.message(version, "see", Ber.SET, new long[] {7, 0, 0})),
                    Ber.message(version, "see", Ber.ANSWER, new long[] {7, 0, 0}));
            Check.due("18: SET of no rows", other.agent.count(4), 0);
            Check.due("18: SET of no rows, errors", other.agent.count(7), 0);
        }
    }

    private static Desk hiding(long... name) {
        Desk desk = withRows();
        desk.view(0, false, name);
        return desk;
    }

    private static void views() {
        byte[] good = pair(Ber.text("a"), TEXT);
        refused("not in the view", hiding(1, 3, 6, 1, 2), hiding(1, 3, 6, 1, 2), 6, 2, good, pair(Ber.integer(3), INTEGER));
        refused("not in the view, and no object", hiding(1, 3, 9), hiding(1, 3, 9), 6, 1, pair(Ber.integer(3), 1, 3, 9, 9));
        Desk desk = hiding(1, 3, 6, 1, 2);
        done("in the view", desk, good);
        Check.due("20: in the view", desk.agent.told(Desk.SCALAR_TEXT, 0), 1);
    }

    private static void notSettable() {
        refused("no object", 17, 1, pair(Ber.integer(3), 1, 3, 6, 1, 8, 0));
        refused("a table", 17, 1, pair(Ber.integer(3), 1, 3, 6, 2, 1));
        refused("above", 17, 1, pair(Ber.integer(3), 1, 3));
        refused("read only", 17, 1, pair(Ber.number(65, 1), 1, 3, 6, 2, 1, 3, 5));
        refused("the clock", 17, 1, pair(Ber.number(67, 1), 1, 3, 6, 1, 3, 0));
        refused("no access", 17, 1, pair(Ber.number(66, 0), 1, 3, 6, 1, 7, 0));
        refused("read only and another tag", 17, 1, pair(Ber.integer(1), 1, 3, 6, 2, 1, 3, 5));
    }

    private static void wrongTags() {
        byte[][] values = {Ber.integer(3), Ber.text("a"), Ber.NULL, Ber.name(1, 3), Ber.address(0, 0, 0, 3), Ber.number(65, 3),
            Ber.number(66, 3), Ber.number(67, 3), Ber.longCounter(3)};
        for (int i = 0; i < values.length; i++) {
            if (i != 0) {
                refused("an integer as value " + i, 7, 1, pair(values[i], INTEGER));
                refused("a status as value " + i, 7, 1, pair(values[i], 1, 3, 6, 2, 1, 4, 5));
            }
            if (i != 1) {
                refused("a text as value " + i, 7, 1, pair(values[i], TEXT));
            }
        }
    }

    private static void textBounds() {
        done("a text of 12", withRows(), pair(Ber.text("x".repeat(12)), TEXT));
        refused("a text of 13", 8, 1, pair(Ber.text("x".repeat(13)), TEXT));
        done("a text of 0", withRows(), pair(Ber.text(""), TEXT));
        refused("a text of 0 of a column", 8, 1, word(5, ""));
        done("a text of 1 of a column", withRows(), word(5, "x"));
        done("a text of 8 of a column", withRows(), word(5, "x".repeat(8)));
        refused("a text of 9 of a column", 8, 1, word(5, "x".repeat(9)));
    }

    private static void numberBounds() {
        done("the least", withRows(), pair(Ber.integer(-5), INTEGER));
        done("the most", withRows(), pair(Ber.integer(300), INTEGER));
        refused("below", 10, 1, pair(Ber.integer(-6), INTEGER));
        refused("above", 10, 1, pair(Ber.integer(301), INTEGER));
        refused("above, of a column", 10, 1, number(5, 101));
        for (int tag = 66; tag <= 67; tag++) {
            done("the least of " + tag, bounded(tag), pair(Ber.number(tag, 10), 1, 3, 0));
            done("the most of " + tag, bounded(tag), pair(Ber.number(tag, 3000000000L), 1, 3, 0));
            refused("below, of " + tag, bounded(tag), bounded(tag), 10, 1, pair(Ber.number(tag, 9), 1, 3, 0));
            refused("above, of " + tag, bounded(tag), bounded(tag), 10, 1, pair(Ber.number(tag, 3000000001L), 1, 3, 0));
        }
    }

    private static Desk bounded(int tag) {
        Desk desk = new Desk();
        desk.community("pub", true);
        desk.scalar(tag, 2, 10, 3000000000L, 1, 3);
        return desk;
    }

    private static void unboundedTags() {
        int[] tags = {6, 64, 65, 70};
        byte[][] values = {Ber.name(1, 3, 5), Ber.address(1, 2, 3, 4), Ber.number(65, 99), Ber.longCounter(-1)};
        long[] told = {3, 0x01020304L, 99, -1};
        for (int i = 0; i < tags.length; i++) {
            Desk desk = new Desk();
            desk.community("pub", true);
            desk.scalar(tags[i], 2, 5, 6, 1, 3);
            done("bounds count for nothing, of " + tags[i], desk, pair(values[i], 1, 3, 0));
            Check.due("20: set, of " + tags[i], desk.agent.told(0, 0), told[i]);
        }
        Desk desk = new Desk();
        desk.community("pub", true);
        desk.scalar(67, 2, 0, 100, 1, 3);
        desk.agent.tick(50);
        done("ticks that may be set", desk, pair(Ber.number(67, 7), 1, 3, 0));
        Check.due("20: ticks that may be set", desk.agent.told(0, 0), 7);
    }

    private static void statusValues() {
        for (long v : new long[] {-1, 0, 3, 7, 2147483647L}) {
            refused("a status of " + v, 10, 1, status(5, v));
            refused("a status of " + v + " of no row", 10, 1, status(6, v));
        }
    }

    private static void behindTheName() {
        refused("a scalar's name", 11, 1, pair(Ber.integer(3), 1, 3, 6, 1, 2));
        refused("a scalar's 1", 11, 1, pair(Ber.integer(3), 1, 3, 6, 1, 2, 1));
        refused("a scalar's 0.0", 11, 1, pair(Ber.integer(3), 1, 3, 6, 1, 2, 0, 0));
        refused("a column's name", 11, 1, pair(Ber.integer(3), 1, 3, 6, 2, 1, 1));
        refused("a column's 0", 11, 1, number(0, 3));
        refused("a column's 2^31", 11, 1, number(2147483648L, 3));
        refused("a column's 5.0", 11, 1, pair(Ber.integer(3), 1, 3, 6, 2, 1, 1, 5, 0));
        refused("a status' name", 11, 1, pair(Ber.integer(4), 1, 3, 6, 2, 1, 4));
        refused("a status' 0", 11, 1, status(0, 4));
        refused("a status' 2^32 - 1", 11, 1, status(MOST, 4));
        refused("a status' 7.7", 11, 1, pair(Ber.integer(4), 1, 3, 6, 2, 1, 4, 7, 7));
        TreeAgent one = done("a status' 1", withRows(), number(1, 9), status(1, 5)).agent;
        Check.due("20: the least index", one.told(Desk.COLUMN_STATUS, 1), 2);
        Check.due("20: its value", one.told(Desk.COLUMN_INTEGER, 1), 9);
        TreeAgent x = done("a status' 2^31 - 1", withRows(), status(2147483647L, 4)).agent;
        Check.due("20: the greatest index", x.told(Desk.COLUMN_STATUS, 2147483647), 1);
    }

    private static void rowsThatAreNotThere() {
        refused("no row", 18, 1, number(6, 3));
        refused("no row, and it is only taken away", 18, 2, status(6, 6), number(6, 3));
        refused("no row, and another one is made", 18, 1, number(6, 3), status(7, 4));
        refused("no row, and its status is no integer", 18, 1, number(6, 3), pair(Ber.number(66, 4), 1, 3, 6, 2, 1, 4, 6));
        refused("no row, and a status with more behind", 18, 1, number(6, 3), pair(Ber.integer(4), 1, 3, 6, 2, 1, 4, 6, 6));
        refused("no row, and 4 of another column", 18, 1, number(6, 4));
        TreeAgent x = done("made behind", withRows(), number(6, 3), status(6, 4)).agent;
        Check.due("20: made behind", x.told(Desk.COLUMN_INTEGER, 6), 3);
        Check.due("20: made active", x.told(Desk.COLUMN_STATUS, 6), 1);
        x = done("made before", withRows(), status(6, 5), word(6, "new")).agent;
        Check.due("20: made before", x.told(Desk.COLUMN_TEXT, 6), 3);
        Check.due("20: the first value of another", x.told(Desk.COLUMN_INTEGER, 6), 0);
        Check.due("20: made waiting", x.told(Desk.COLUMN_STATUS, 6), 2);
        Check.due("19: a row more", x.rows(0), 3);
        byte[] four = pair(Ber.integer(4), 1, 3, 1, 6);
        refused("no row and no status column", withoutStatus(7), withoutStatus(7), 18, 1, four);
        x = done("a row without a status column", withoutStatus(6), four).agent;
        Check.due("20: of a row without a status column", x.told(0, 6), 4);
    }

    /** A table without a STATUS column, with one row. */
    private static Desk withoutStatus(int index) {
        Desk desk = new Desk();
        desk.community("pub", true);
        desk.table(1, 3);
        desk.agent.column(0, 1, 2, 2, 0, 9);
        desk.agent.row(0, index, true);
        return desk;
    }

    private static void statusAndRows() {
        refused("active, and no row", 12, 1, status(6, 1));
        refused("waiting, and no row", 12, 1, status(6, 2));
        refused("made active, and there is one", 12, 1, status(5, 4));
        refused("made waiting, and there is one", 12, 1, status(5, 5));
        refused("made, though a row before takes it away", 12, 2, status(5, 6), status(5, 4));
        refused("active, though a row before makes it", 12, 2, status(6, 4), status(6, 1));
        TreeAgent x = done("waiting", withRows(), status(5, 2)).agent;
        Check.due("20: waiting", x.told(Desk.COLUMN_STATUS, 5), 2);
        Check.due("20: of another row", x.told(Desk.COLUMN_STATUS, 9), 1);
        Check.due("8: a waiting row is there", x.row(0, 5, true), 0);
        Check.due("20: and stays waiting", x.told(Desk.COLUMN_STATUS, 5), 2);
        x = done("waiting, then active", withRows(), status(5, 2), status(5, 1)).agent;
        Check.due("20: then active", x.told(Desk.COLUMN_STATUS, 5), 1);
        x = done("away", withRows(), status(5, 6)).agent;
        Check.due("19: away", x.rows(0), 1);
        Check.due("20: away", x.told(Desk.COLUMN_STATUS, 5), -1);
        x = done("away, and no row", withRows(), status(6, 6)).agent;
        Check.due("19: away, and no row", x.rows(0), 2);
    }

    private static void makingTwice() {
        refused("made twice", 12, 2, status(6, 4), status(6, 4));
        refused("made twice in two ways", 12, 3, status(6, 4), status(7, 4), status(6, 5));
        TreeAgent x = done("two made", withRows(), status(6, 4), status(7, 5)).agent;
        Check.due("20: the first", x.told(Desk.COLUMN_STATUS, 6), 1);
        Check.due("20: the second", x.told(Desk.COLUMN_STATUS, 7), 2);
    }

    /** The rows 101 .. 100 + n are there. */
    private static Desk withMany(int n) {
        Desk desk = Desk.usual();
        for (int i = 1; i <= n; i++) {
            desk.agent.row(0, 100 + i, true);
        }
        return desk;
    }

    private static void roomForRows() {
        refused("a 17th", withMany(16), withMany(16), 13, 1, status(6, 4));
        refused("a 17th, waiting", withMany(16), withMany(16), 13, 1, status(6, 5));
        refused("a 17th, by rows before", withMany(14), withMany(14), 13, 3, status(6, 4), status(7, 5), status(8, 4));
        refused("a 17th, and one goes", withMany(16), withMany(16), 13, 2, status(101, 6), status(6, 4));
        refused("one that is there, of 16", withMany(16), withMany(16), 12, 1, status(101, 4));
        refused("made twice, of 15", withMany(15), withMany(15), 12, 2, status(6, 4), status(6, 4));
        TreeAgent x = done("a 16th", withMany(14), status(6, 4), status(7, 5)).agent;
        Check.due("19: a 16th", x.rows(0), 16);
        x = done("a 16th, and others", withMany(15), number(6, 1), status(101, 6), status(6, 4), status(102, 2)).agent;
        Check.due("19: one came, one went", x.rows(0), 15);
        Check.due("20: the one that came", x.told(Desk.COLUMN_INTEGER, 6), 1);
    }

    /** Of two faults of one row, that which the document names first. */
    private static void firstOfThese() {
        refused("7 before 8", 7, 1, pair(Ber.integer(1), 1, 3, 6, 2, 1, 2, 5));
        refused("8 before 11", 8, 1, word(0, ""));
        refused("8 before 18", 8, 1, word(6, ""));
        refused("10 before 11", 10, 1, number(0, 101));
        refused("10 before 18", 10, 1, number(6, 101));
        refused("7 before 11", 7, 1, pair(Ber.text("a"), 1, 3, 6, 1, 2));
        refused("11 before 18", 11, 1, pair(Ber.integer(1), 1, 3, 6, 2, 1, 1, 6, 6));
        refused("6 before 7", hiding(1, 3, 6, 1, 2, 0), hiding(1, 3, 6, 1, 2, 0), 6, 1, pair(Ber.text("a"), INTEGER));
        refused("12 before 13", withMany(16), withMany(16), 12, 1, status(105, 5));
        refused("the first row that is wrong", 10, 2, pair(Ber.text("a"), TEXT), pair(Ber.integer(999), INTEGER),
                pair(Ber.integer(1), 1, 3, 9), number(6, 1));
        refused("made by a row that is itself wrong", hiding(1, 3, 6, 2, 1, 4), hiding(1, 3, 6, 2, 1, 4), 6, 2,
                number(6, 1), status(6, 4));
    }

    private static void allOrNothing() {
        Desk one = withRows();
        Desk zero = withRows();
        refused("all or nothing", one, zero, 17, 5, pair(Ber.text("a"), TEXT), status(6, 4), status(5, 6), status(9, 2),
                pair(Ber.integer(1), 1, 3, 9));
        for (Desk desk : new Desk[] {one, zero}) {
            Check.due("20: nothing is set", desk.agent.told(Desk.SCALAR_TEXT, 0), 0);
            Check.due("19: nothing is made or gone", desk.agent.rows(0), 2);
            Check.due("20: nothing is made", desk.agent.told(Desk.COLUMN_STATUS, 6), -1);
            Check.due("20: nothing is gone", desk.agent.told(Desk.COLUMN_STATUS, 5), 1);
            Check.due("20: nothing is waiting", desk.agent.told(Desk.COLUMN_STATUS, 9), 1);
        }
    }

    private static void orderOfDoing() {
        TreeAgent x = done("twice the same", withRows(), pair(Ber.integer(1), INTEGER), pair(Ber.integer(2), INTEGER)).agent;
        Check.due("20: the last one counts", x.told(Desk.SCALAR_INTEGER, 0), 2);
        x = done("made behind two values", withRows(), number(6, 1), number(6, 2), status(6, 5), number(6, 3)).agent;
        Check.due("20: the last value counts", x.told(Desk.COLUMN_INTEGER, 6), 3);
        Check.due("20: waiting as made", x.told(Desk.COLUMN_STATUS, 6), 2);
        Desk desk = withRows();
        desk.agent.value(Desk.COLUMN_INTEGER, 5, 77);
        desk.agent.row(0, 5, false);
        x = done("made again", desk, status(5, 4)).agent;
        Check.due("20: with the first values", x.told(Desk.COLUMN_INTEGER, 5), 0);
    }

    private static void goingRows() {
        TreeAgent x = done("a value before it goes", withRows(), number(5, 3), status(5, 6)).agent;
        Check.due("19: it went", x.rows(0), 1);
        x = done("a value behind", withRows(), status(5, 6), number(5, 3), word(9, "w")).agent;
        Check.due("20: it is nothing", x.told(Desk.COLUMN_INTEGER, 5), -1);
        Check.due("20: of another row it is", x.told(Desk.COLUMN_TEXT, 9), 1);
        x = done("a status behind", withRows(), status(5, 6), status(5, 2)).agent;
        Check.due("19: it is gone", x.rows(0), 1);
        x = done("gone twice", withRows(), status(5, 6), status(5, 6)).agent;
        Check.due("19: gone twice", x.rows(0), 1);
        x = done("made and gone", withRows(), status(6, 4), number(6, 3), status(6, 6)).agent;
        Check.due("19: made and gone", x.rows(0), 2);
        x = done("gone and made", withRows(), status(6, 6), status(6, 4)).agent;
        Check.due("19: made first, then gone", x.rows(0), 2);
        x.row(0, 6, true);
        Check.due("20: first values behind all that", x.told(Desk.COLUMN_INTEGER, 6), 0);
    }

    private static void twoTables() {
        Desk desk = withMany(16);
        desk.table(1, 3, 6, 2, 2);
        desk.agent.column(1, 1, 70, 2, 0, 0);
        desk.agent.status(1, 2);
        byte[] made = pair(Ber.integer(5), 1, 3, 6, 2, 2, 2, 101);
        byte[] set = pair(Ber.longCounter(8), 1, 3, 6, 2, 2, 1, 101);
        TreeAgent x = done("the room of another table", desk, set, made).agent;
        Check.due("19: the first table", x.rows(0), 16);
        Check.due("19: the second table", x.rows(1), 1);
        Check.due("20: its value", x.told(11, 101), 8);
        Check.due("20: its status", x.told(12, 101), 2);
        Check.due("20: the status of the first", x.told(Desk.COLUMN_STATUS, 101), 1);
    }

    private static Desk withScalar(int tag, long least, long most) {
        Desk desk = new Desk();
        desk.community("pub", true);
        desk.scalar(tag, 2, least, most, 1, 3);
        return desk;
    }

    private static void fits(String what, int tag, long least, long most, byte[] value) {
        done(what, withScalar(tag, least, most), pair(value, 1, 3, 0));
    }

    private static void misfits(String what, int error, int tag, long least, long most, byte[] value) {
        refused(what, withScalar(tag, least, most), withScalar(tag, least, most), error, 1, pair(value, 1, 3, 0));
    }

    /** "8 of a TEXT, too few octets or too many": bounds that leave one length, none of them, or all. */
    private static void boundsOfTexts() {
        for (int octets : new int[] {0, 1, 20, 40}) {
            fits("a text of just " + octets, 4, octets, octets, Ber.text("t".repeat(octets)));
            if (octets > 0) {
                misfits("a text, too few by one", 8, 4, octets, octets, Ber.text("t".repeat(octets - 1)));
            }
            if (octets < 40) {
                misfits("a text, too many by one", 8, 4, octets, octets, Ber.text("t".repeat(octets + 1)));
            }
            fits("a text of any length", 4, Long.MIN_VALUE, Long.MAX_VALUE, Ber.text("t".repeat(octets)));
            misfits("a text, bounds above 40", 8, 4, 41, 100, Ber.text("t".repeat(octets)));
            misfits("a text, bounds below 0", 8, 4, -100, -1, Ber.text("t".repeat(octets)));
        }
    }

    /** "10 an INTEGER, GAUGE or TICKS out of its bounds": bounds that leave one number, none of them, or all. */
    private static void boundsOfNumbers() {
        for (long v : new long[] {-2147483648L, -1, 0, 1, 2147483647L}) {
            fits("an integer of just " + v, 2, v, v, Ber.integer(v));
            fits("any integer", 2, Long.MIN_VALUE, Long.MAX_VALUE, Ber.integer(v));
            misfits("an integer, bounds above all", 10, 2, 2147483648L, Long.MAX_VALUE, Ber.integer(v));
            misfits("an integer, bounds below all", 10, 2, Long.MIN_VALUE, -2147483649L, Ber.integer(v));
            if (v < 2147483647L) {
                misfits("an integer, one above", 10, 2, v, v, Ber.integer(v + 1));
            }
            if (v > -2147483648L) {
                misfits("an integer, one below", 10, 2, v, v, Ber.integer(v - 1));
            }
        }
        for (int tag = 66; tag <= 67; tag++) {
            for (long v : new long[] {0, 1, 2147483647L, 2147483648L, MOST}) {
                fits("just " + v + " of " + tag, tag, v, v, Ber.number(tag, v));
                fits("any of " + tag, tag, Long.MIN_VALUE, Long.MAX_VALUE, Ber.number(tag, v));
                misfits("bounds above all of " + tag, 10, tag, MOST + 1, Long.MAX_VALUE, Ber.number(tag, v));
                misfits("bounds below all of " + tag, 10, tag, Long.MIN_VALUE, -1, Ber.number(tag, v));
                if (v < MOST) {
                    misfits("one above, of " + tag, 10, tag, v, v, Ber.number(tag, v + 1));
                }
                if (v > 0) {
                    misfits("one below, of " + tag, 10, tag, v, v, Ber.number(tag, v - 1));
                }
            }
        }
    }

    /** column() does not refuse bounds of which the least is above the most: no value is within them. */
    private static void boundsTurnedRound() {
        for (long v : new long[] {0, 4, 5, 6, 9}) {
            Desk[] desks = new Desk[2];
            for (int i = 0; i < 2; i++) {
                desks[i] = new Desk();
                desks[i].community("pub", true);
                desks[i].table(1, 3);
                desks[i].agent.column(0, 1, 2, 2, 6, 4);
                desks[i].agent.row(0, 1, true);
            }
            refused("bounds turned round", desks[0], desks[1], 10, 1, pair(Ber.integer(v), 1, 3, 1, 1));
        }
    }

    /** "of a STATUS another one than 1, 2, 4, 5, 6": each number for a ROW that is there, and for one that is not. */
    private static void statusOfEachNumber() {
        int[] ofThere = {10, 0, 0, 10, 12, 12, 0, 10, 10};
        int[] ofNone = {10, 12, 12, 10, 0, 0, 0, 10, 10};
        for (int v = 0; v <= 8; v++) {
            statusIs(5, v, ofThere[v]);
            statusIs(6, v, ofNone[v]);
        }
        for (long v : new long[] {-2147483648L, -1, 256 + 4, 65536 + 1, 2147483647L}) {
            refused("a status of " + v, 10, 1, status(5, v));
        }
    }

    private static void statusIs(int index, int v, int error) {
        if (error == 0) {
            done("a status of " + v, withRows(), status(index, v));
        } else {
            refused("a status of " + v, error, 1, status(index, v));
        }
    }

    /** "11 what is behind the object's name is not 0 (of a scalar), or not one number 1 .. 2^31 - 1". */
    private static void indexesOfEachColumn() {
        for (long index : new long[] {1, 2147483647L}) {
            Desk desk = done("the index " + index, withRows(), number(index, 7), word(index, "w"), status(index, 4));
            Check.due("20: of the index " + index, desk.agent.told(Desk.COLUMN_INTEGER, (int) index), 7);
            Check.due("19: a row more", desk.agent.rows(0), 3);
        }
        for (long index : new long[] {0, 2147483648L, MOST}) {
            refused("the index " + index + " of a number", 11, 1, number(index, 7), status(index, 4));
            refused("the index " + index + " of a text", 11, 1, word(index, "w"));
            for (int v : new int[] {1, 2, 4, 5, 6}) {
                refused("the index " + index + " of a status", 11, 1, status(index, v));
            }
        }
        for (long behind : new long[] {1, 2147483648L, MOST}) {
            refused("a scalar's " + behind, 11, 1, pair(Ber.integer(3), 1, 3, 6, 1, 2, behind));
        }
    }

    /** "by the first of these": of two ERRORS that fit a row, the one named before. */
    private static void eachBeforeTheNext() {
        byte[] noObject = pair(Ber.integer(1), 1, 3, 9);
        refused("6 before 17", hiding(1, 3, 9), hiding(1, 3, 9), 6, 1, noObject);
        refused("6 before 11", hiding(1, 3, 6, 1), hiding(1, 3, 6, 1), 6, 1, pair(Ber.integer(1), 1, 3, 6, 1, 2, 7));
        refused("6 before 18", hiding(1, 3, 6, 2), hiding(1, 3, 6, 2), 6, 1, number(6, 1));
        refused("6 before 12", hiding(1, 3, 6, 2), hiding(1, 3, 6, 2), 6, 1, status(5, 4));
        refused("17 before 7", 17, 1, pair(Ber.text("a"), 1, 3, 6, 2, 1, 3, 5));
        refused("17 before 11", 17, 1, pair(Ber.number(65, 1), 1, 3, 6, 2, 1, 3, 0));
        refused("17 before 18", 17, 1, pair(Ber.number(65, 1), 1, 3, 6, 2, 1, 3, 6));
        refused("7 before 10", 7, 1, pair(Ber.number(66, 999), INTEGER));
        refused("7 before 18", 7, 1, pair(Ber.text("a"), 1, 3, 6, 2, 1, 1, 6));
        refused("7 before 12", 7, 1, pair(Ber.number(66, 4), 1, 3, 6, 2, 1, 4, 5));
        refused("10 before 11 of a status", 10, 1, status(0, 3));
        refused("11 before 12", 11, 1, status(0, 1));
        refused("11 before 13", withMany(16), withMany(16), 11, 1, status(0, 4));
        refused("12 before 13 by a row before", withMany(15), withMany(15), 12, 2, status(6, 4), status(6, 5));
    }

    /** "13 a STATUS of 4 or 5, and there are 16 ROWS (those that rows before make are counted as there": all by one SET. */
    private static void sixteenRowsAtOnce() {
        byte[][] sixteen = new byte[16][];
        byte[][] seventeen = new byte[17][];
        for (int i = 0; i < 17; i++) {
            seventeen[i] = status(i + 1, 4 + i % 2);
            if (i < 16) {
                sixteen[i] = seventeen[i];
            }
        }
        TreeAgent x = done("16 rows at once", Desk.usual(), sixteen).agent;
        Check.due("19: 16 rows at once", x.rows(0), 16);
        for (int i = 0; i < 16; i++) {
            Check.due("20: the status of " + (i + 1), x.told(Desk.COLUMN_STATUS, i + 1), 1 + i % 2);
        }
        Desk one = Desk.usual();
        refused("17 rows at once", one, Desk.usual(), 13, 17, seventeen);
        Check.due("19: none of them is made", one.agent.rows(0), 0);
        refused("a second one, of 15", withMany(15), withMany(15), 13, 2, status(6, 4), status(7, 5));
        refused("one of 16", withMany(16), withMany(16), 13, 1, status(6, 5));
    }

    /** "those that they take away, too)": they are counted as there. */
    private static void takenAwayByRowsBefore() {
        refused("one goes, one comes", withMany(16), withMany(16), 13, 2, status(101, 6), status(6, 5));
        refused("all go, one comes", withMany(16), withMany(16), 13, 17, gone(16, status(6, 4)));
        Desk desk = done("of 15 all go, one comes", withMany(15), gone(15, status(6, 4)));
        Check.due("19: the one that came", desk.agent.rows(0), 1);
        Check.due("20: its status", desk.agent.told(Desk.COLUMN_STATUS, 6), 1);
        refused("made, gone by a row before, and made again", withMany(15), withMany(15), 13, 3, status(6, 4), status(6, 6),
                status(7, 4));
    }

    private static byte[][] gone(int rows, byte[] last) {
        byte[][] all = new byte[rows + 1][];
        for (int i = 0; i < rows; i++) {
            all[i] = status(101 + i, 6);
        }
        all[rows] = last;
        return all;
    }

    /** Only a STATUS of 4 or 5 makes a ROW that is counted: no other row before it does. */
    private static void otherRowsBefore() {
        Desk desk = withMany(15);
        desk.table(1, 3, 6, 2, 2);
        desk.agent.status(1, 1);
        done("other rows before a 16th", desk, pair(Ber.text("a"), TEXT), pair(Ber.integer(4), INTEGER), number(101, 4),
                word(102, "w"), status(103, 1), status(104, 6), status(77, 6), pair(Ber.integer(4), 1, 3, 6, 2, 2, 1, 6),
                status(6, 4));
        Check.due("19: one came, one went", desk.agent.rows(0), 15);
        Check.due("19: of the other table", desk.agent.rows(1), 1);
    }

    /** A question is by itself: rows that an earlier and longer one had are not done, and make no ROW. */
    private static void rowsOfTheQuestionBefore() {
        byte[] text = pair(Ber.text("a"), TEXT);
        byte[] value = pair(Ber.integer(42), INTEGER);
        Desk desk = withRows();
        desk.ask(Ber.ask(1, Ber.GET, text, value, status(6, 4), status(5, 6)));
        done("one row behind four that were asked for", desk, text);
        desk.ask(Ber.ask(1, Ber.GET, text, status(6, 4), status(5, 6)));
        done("one row behind three that were asked for", desk, text);
        Check.due("20: nothing else is set", desk.agent.told(Desk.SCALAR_INTEGER, 0), 0);
        Check.due("19: no row is made or gone", desk.agent.rows(0), 2);
        Desk[] twins = {withRows(), withRows()};
        for (Desk twin : twins) {
            twin.feed(Ber.octets(1)).agent.question();
            twin.feed(Ber.join(Ber.ask(1, Ber.SET, number(6, 3), status(6, 4)), Ber.octets(0))).agent.question();
            twin.feed(Ber.ask(2, Ber.SET, number(6, 3), status(6, 4))).agent.question();
        }
        refused("a ROW that only a dropped question would make", twins[0], twins[1], 18, 1, number(6, 3));
        Desk asked = withRows();
        asked.ask(Ber.ask(1, Ber.GET, number(6, 3), status(6, 4)));
        Check.due("16: SET, a ROW that only a GET had", asked.ask(Ber.ask(1, Ber.SET, number(6, 3))),
                Ber.answer(1, 18, 1, number(6, 3)));
    }
}
