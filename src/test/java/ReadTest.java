/** Promise 16, reading: what is taken as a question, and by what it is dropped and counted. */
public final class ReadTest {
    private static final byte[] NAME = Ber.name(1, 3, 6, 1, 2, 0);
    private static final byte[] ZERO = Ber.integer(0);
    private static final byte[] SEVEN = Ber.integer(7);
    private static final byte[] VERSION = Ber.integer(1);
    private static final byte[] PUB = Ber.text("pub");

    public static void main(String[] args) {
        outerFields();
        versions();
        communities();
        kinds();
        headNumbers();
        rows();
        lengths();
        numberValues();
        longCounters();
        otherValues();
        names();
        firstCauseCounts();
        Check.finish();
    }

    /** A message of VERSION 1 to "pub" with what is behind these. */
    private static byte[] toPub(byte[]... rest) {
        return Ber.field(Ber.ROW, VERSION, PUB, Ber.join(rest));
    }

    private static byte[] getOf(byte[] rows) {
        return toPub(Ber.field(Ber.GET, SEVEN, ZERO, ZERO, rows));
    }

    /** A SET of one row, whose answer has to show the row as it was understood; without such an object it is ERROR 17. */
    private static void valueIsRead(String what, byte[] given, byte[] shortest) {
        byte[] name = Ber.name(1, 3, 9);
        Desk.answered(what, Ber.ask(1, Ber.SET, Ber.pair(name, given)), Ber.answer(1, 17, 1, Ber.pair(name, shortest)));
    }

    private static void valueIsBad(String what, byte[] given) {
        Desk.dropped(what, 1, Ber.ask(1, Ber.GET, Ber.pair(NAME, given)));
    }

    private static void outerFields() {
        byte[] good = Ber.ask(1, Ber.GET);
        Desk.dropped("an empty tape", 1, Ber.octets());
        Desk.dropped("a tag alone", 1, Ber.octets(48));
        Desk.dropped("an empty row", 1, Ber.octets(48, 0));
        Desk.dropped("another outer tag", 1, Ber.join(Ber.octets(49), java.util.Arrays.copyOfRange(good, 1, good.length)));
        Desk.dropped("an octet behind it", 1, Ber.join(good, Ber.octets(0)));
        for (int n = 0; n < good.length; n++) {
            Desk.dropped("the first " + n + " octets", 1, java.util.Arrays.copyOf(good, n));
        }
        Desk.dropped("something behind the question", 1, toPub(Ber.field(Ber.GET, SEVEN, ZERO, ZERO, Ber.field(48)), ZERO));
        Desk.dropped("something behind the rows", 1, toPub(Ber.field(Ber.GET, SEVEN, ZERO, ZERO, Ber.field(48), ZERO)));
        Desk.dropped("no rows", 1, toPub(Ber.field(Ber.GET, SEVEN, ZERO, ZERO)));
        Desk.dropped("no t", 1, toPub(Ber.field(Ber.GET, SEVEN, ZERO, Ber.field(48))));
        Desk.dropped("another tag than the rows'", 1, toPub(Ber.field(Ber.GET, SEVEN, ZERO, ZERO, Ber.field(49))));
        Desk.answered("nothing asked", good, Ber.answer(1, 0, 0));
    }

    private static void versions() {
        byte[] rest = Ber.join(PUB, Ber.field(Ber.GET, SEVEN, ZERO, ZERO, Ber.field(48)));
        Desk.dropped("version 2", 2, Ber.field(48, Ber.integer(2), rest));
        Desk.dropped("version -1", 2, Ber.field(48, Ber.integer(-1), rest));
        Desk.dropped("version 2^31 - 1", 2, Ber.field(48, Ber.integer(2147483647L), rest));
        Desk.dropped("version 2^31", 1, Ber.field(48, Ber.integer(2147483648L), rest));
        Desk.dropped("version 2^32", 1, Ber.field(48, Ber.integer(4294967296L), rest));
        Desk.dropped("version without octets", 1, Ber.field(48, Ber.field(2), rest));
        Desk.dropped("version as a gauge", 1, Ber.field(48, Ber.number(66, 1), rest));
        Desk.answered("version 1 in nine octets", Ber.field(48, Ber.field(2, Ber.octets(0, 0, 0, 0, 0, 0, 0, 0, 1)), rest),
                Ber.answer(1, 0, 0));
        Desk.answered("version 0", Ber.ask(0, Ber.GET), Ber.answer(0, 0, 0));
    }

    private static void communities() {
        byte[] rest = Ber.field(Ber.GET, SEVEN, ZERO, ZERO, Ber.field(48));
        Desk.dropped("another community", 3, Ber.field(48, VERSION, Ber.text("pug"), rest));
        Desk.dropped("a begin of a community", 3, Ber.field(48, VERSION, Ber.text("pu"), rest));
        Desk.dropped("a community and more", 3, Ber.field(48, VERSION, Ber.text("pubs"), rest));
        Desk.dropped("no octets", 3, Ber.field(48, VERSION, Ber.text(""), rest));
        Desk.dropped("40 octets", 3, Ber.field(48, VERSION, Ber.text("x".repeat(40)), rest));
        Desk.dropped("41 octets", 1, Ber.field(48, VERSION, Ber.text("x".repeat(41)), rest));
        Desk.dropped("a community longer than the message", 1, Ber.field(48, VERSION, Ber.octets(4, 5, 'n', 'o')));
        Desk.dropped("a community as an integer", 1, Ber.field(48, VERSION, ZERO, rest));
        Desk desk = Desk.usual();
        desk.community("", false);
        byte[] none = Ber.message(1, "", Ber.GET, new long[] {7, 0, 0});
        Check.due("16: a community without octets", desk.ask(none), Ber.message(1, "", Ber.ANSWER, new long[] {7, 0, 0}));
    }

    private static void kinds() {
        for (int kind : new int[] {159, 162, 164, 166, 48, 2}) {
            Desk.dropped("kind " + kind, 1, Ber.ask(1, kind));
        }
        Desk.dropped("many in version 0", 1, Ber.ask(0, Ber.MANY));
        Desk.dropped("many in version 0 to no community", 3, Ber.message(0, "no", Ber.MANY, new long[] {7, 0, 0}));
        Desk.answered("get", Ber.ask(1, Ber.GET), Ber.answer(1, 0, 0));
        Desk.answered("next", Ber.ask(0, Ber.NEXT), Ber.answer(0, 0, 0));
        Desk.answered("set", Ber.ask(0, Ber.SET), Ber.answer(0, 0, 0));
        Desk.answered("many", Ber.ask(1, Ber.MANY), Ber.answer(1, 0, 0));
    }

    private static void headNumbers() {
        for (long id : new long[] {0, 127, 128, 255, 32767, 32768, 2147483647L, -1, -128, -129, -2147483648L}) {
            Desk.answered("id " + id, Ber.message(1, "pub", Ber.GET, new long[] {id, -5, 9}),
                    Ber.message(1, "pub", Ber.ANSWER, new long[] {id, 0, 0}));
        }
        Desk.dropped("id 2^31", 1, Ber.message(1, "pub", Ber.GET, new long[] {2147483648L, 0, 0}));
        Desk.dropped("s below", 1, Ber.message(1, "pub", Ber.GET, new long[] {7, -2147483649L, 0}));
        Desk.dropped("t above", 1, Ber.message(1, "pub", Ber.GET, new long[] {7, 0, 2147483648L}));
        Desk.dropped("t as a text", 1, toPub(Ber.field(Ber.GET, SEVEN, ZERO, Ber.text("a"), Ber.field(48))));
    }

    private static void rows() {
        byte[] row = Ber.pair(Ber.name(1, 3), Ber.NULL);
        byte[][] twenty = new byte[20][];
        java.util.Arrays.fill(twenty, row);
        byte[][] told = new byte[20][];
        java.util.Arrays.fill(told, Ber.pair(Ber.name(1, 3), Ber.NO_OBJECT));
        Desk.answered("20 rows", Ber.ask(1, Ber.GET, twenty), Ber.answer(1, 0, 0, told));
        Desk.dropped("21 rows", 1, getOf(Ber.field(48, Ber.join(twenty), row)));
        Desk.dropped("a row with another tag", 1, getOf(Ber.field(48, Ber.field(49, NAME, Ber.NULL))));
        Desk.dropped("a row without a value", 1, getOf(Ber.field(48, Ber.field(48, NAME))));
        Desk.dropped("an empty row", 1, getOf(Ber.field(48, Ber.field(48))));
        Desk.dropped("a row with two values", 1, getOf(Ber.field(48, Ber.field(48, NAME, Ber.NULL, Ber.NULL))));
        Desk.dropped("a row that begins with its value", 1, getOf(Ber.field(48, Ber.field(48, Ber.NULL, NAME))));
        Desk.dropped("a name longer than its row", 1, getOf(Ber.field(48, Ber.octets(48, 4, 6, 4, 43, 6, 1, 1), Ber.NULL)));
        Desk.dropped("a value longer than its row", 1,
                getOf(Ber.field(48, Ber.octets(48, 6, 6, 1, 43, 4, 2, 1), Ber.octets(1), row)));
        Desk.dropped("a value's length outside of its row", 1, getOf(Ber.field(48, Ber.octets(48, 4, 6, 1, 43, 5), Ber.octets(0))));
        Desk.dropped("a length cut by its row", 1, getOf(Ber.field(48, Ber.octets(48, 5, 6, 1, 43, 5, 129), Ber.octets(0))));
    }

    private static void lengths() {
        byte[] answer = Ber.answer(1, 0, 0, Ber.pair(NAME, ZERO));
        for (int n = 1; n <= 4; n++) {
            byte[] pair = Ber.longField(48, n, Ber.longField(6, n, Ber.octets(43, 6, 1, 2, 0)), Ber.longField(5, n));
            byte[] body = Ber.longField(160, n, Ber.longField(2, n, Ber.octets(7)), ZERO, ZERO, Ber.longField(48, n, pair));
            byte[] text = Ber.longField(4, n, Ber.chars("pub"));
            Desk.answered("lengths in " + n + " octets", Ber.longField(48, n, VERSION, text, body), answer);
        }
        byte[] rest = Ber.join(VERSION, PUB, Ber.field(Ber.GET, SEVEN, ZERO, ZERO, Ber.field(48)));
        Desk.dropped("a length of five octets", 1, Ber.longField(48, 5, rest));
        Desk.dropped("a length of no octets", 1, Ber.join(Ber.octets(48, 128), rest));
        byte[] row = Ber.pair(Ber.name(1, 3, 1, 1), Ber.NULL);
        byte[] rows = Ber.join(row, row, row, row, row, row, row, row, row, row, row, row, row);
        byte[] body = Ber.join(SEVEN, ZERO, ZERO, Ber.field(48, rows));
        Check.due("a body that has 128 octets", body.length, 128);
        Desk.dropped("a length of 128 octets in one octet", 1, toPub(Ber.octets(160, 128), body));
        Desk.dropped("a length of 2^32 - 1", 1, Ber.join(Ber.octets(48, 132, 255, 255, 255, 255), rest));
        Desk.dropped("a length of 2^31 + n", 1, Ber.join(Ber.octets(48, 132, 128, 0, 0, rest.length), rest));
        Desk.dropped("a length of 255 octets", 1, Ber.join(Ber.octets(48, 255), rest));
        Desk.dropped("a length too short", 1, Ber.join(Ber.octets(48, rest.length - 1), rest));
        Desk.dropped("a length too long", 1, Ber.join(Ber.octets(48, rest.length + 1), rest));
        Desk.dropped("an inner length of 2^32 - 1", 1, Ber.field(48, VERSION, Ber.octets(4, 132, 255, 255, 255, 255)));
    }

    private static void numberValues() {
        valueIsRead("an integer in nine octets", Ber.field(2, Ber.octets(255, 255, 255, 255, 255, 255, 255, 255, 5)),
                Ber.field(2, Ber.octets(255, 5)));
        valueIsRead("an integer with a 0 before", Ber.field(2, Ber.octets(0, 5)), Ber.integer(5));
        valueIsRead("the least integer", Ber.integer(-2147483648L), Ber.integer(-2147483648L));
        valueIsRead("the greatest integer", Ber.integer(2147483647L), Ber.integer(2147483647L));
        valueIsBad("an integer above", Ber.integer(2147483648L));
        valueIsBad("an integer below", Ber.integer(-2147483649L));
        valueIsBad("an integer without octets", Ber.field(2));
        valueIsBad("an integer of ten octets", Ber.field(2, Ber.octets(0, 0, 0, 0, 0, 0, 0, 0, 0, 1)));
        valueIsBad("nine octets that are not an integer", Ber.field(2, Ber.octets(1, 0, 0, 0, 0, 0, 0, 0, 5)));
        valueIsBad("nine octets below 0", Ber.field(2, Ber.octets(254, 255, 255, 255, 255, 255, 255, 255, 5)));
        valueIsBad("nine octets, 2^64 - 5", Ber.field(2, Ber.octets(0, 255, 255, 255, 255, 255, 255, 255, 251)));
        valueIsBad("nine octets, 5 - 2^64", Ber.field(2, Ber.octets(255, 0, 0, 0, 0, 0, 0, 0, 5)));
        for (int tag = 65; tag <= 67; tag++) {
            valueIsRead("the greatest of " + tag, Ber.number(tag, 4294967295L), Ber.number(tag, 4294967295L));
            valueIsRead("nine octets of " + tag, Ber.field(tag, Ber.octets(0, 0, 0, 0, 0, 255, 0, 0, 0)),
                    Ber.number(tag, 4278190080L));
            valueIsBad("2^32 of " + tag, Ber.number(tag, 4294967296L));
            valueIsBad("-1 of " + tag, Ber.number(tag, -1));
            valueIsBad("255 of four octets of " + tag, Ber.field(tag, Ber.octets(255, 255, 255, 255)));
            valueIsBad("no octets of " + tag, Ber.field(tag));
            valueIsBad("nine octets above, of " + tag, Ber.field(tag, Ber.octets(1, 0, 0, 0, 0, 0, 0, 0, 5)));
        }
    }

    private static void longCounters() {
        valueIsRead("a long counter 0", Ber.longCounter(0), Ber.longCounter(0));
        valueIsRead("a long counter 2^63 - 1", Ber.longCounter(Long.MAX_VALUE), Ber.longCounter(Long.MAX_VALUE));
        valueIsRead("a long counter 2^63", Ber.longCounter(Long.MIN_VALUE), Ber.longCounter(Long.MIN_VALUE));
        valueIsRead("a long counter 2^64 - 1", Ber.longCounter(-1), Ber.longCounter(-1));
        valueIsRead("a long counter in nine octets", Ber.field(70, Ber.octets(0, 0, 0, 0, 0, 0, 0, 0, 200)),
                Ber.longCounter(200));
        valueIsBad("a long counter of 2^64", Ber.field(70, Ber.octets(1, 0, 0, 0, 0, 0, 0, 0, 0)));
        valueIsBad("a long counter of -1", Ber.field(70, Ber.octets(255)));
        valueIsBad("a long counter below", Ber.field(70, Ber.octets(255, 0, 0, 0, 0, 0, 0, 0, 1)));
        valueIsBad("eight octets below 0", Ber.field(70, Ber.octets(255, 255, 255, 255, 255, 255, 255, 255)));
        valueIsBad("ten octets", Ber.field(70, Ber.octets(0, 0, 0, 0, 0, 0, 0, 0, 0, 1)));
        valueIsBad("no octets", Ber.field(70));
    }

    private static void otherValues() {
        valueIsRead("a text of 40", Ber.text("t".repeat(40)), Ber.text("t".repeat(40)));
        valueIsRead("a text of 0", Ber.text(""), Ber.text(""));
        valueIsRead("a text in a long length", Ber.longField(4, 3, Ber.chars("ab")), Ber.text("ab"));
        valueIsBad("a text of 41", Ber.text("t".repeat(41)));
        valueIsRead("nothing", Ber.NULL, Ber.NULL);
        valueIsBad("nothing with an octet", Ber.field(5, Ber.octets(0)));
        valueIsRead("an address", Ber.address(192, 168, 0, 255), Ber.address(192, 168, 0, 255));
        valueIsRead("an address of 0", Ber.address(0, 0, 0, 0), Ber.address(0, 0, 0, 0));
        valueIsBad("an address of 0 octets", Ber.field(64));
        valueIsBad("an address of 3", Ber.field(64, Ber.octets(1, 2, 3)));
        valueIsBad("an address of 5", Ber.field(64, Ber.octets(1, 2, 3, 4, 5)));
        for (int tag : new int[] {0, 1, 3, 7, 48, 63, 68, 69, 71, 128, 129, 130, 255}) {
            valueIsBad("a value with the tag " + tag, Ber.field(tag));
            valueIsBad("a value with the tag " + tag + " and an octet", Ber.field(tag, Ber.octets(1)));
        }
    }

    private static void names() {
        byte[] longest = Ber.name(2, 39, 0, 1, 127, 128, 16383, 16384, 4294967295L, 1, 2, 3, 4, 5, 6, 7);
        valueIsRead("a name of 16", longest, longest);
        valueIsRead("a name of 2", Ber.name(0, 0), Ber.name(0, 0));
        valueIsBad("a name of 17", Ber.name(1, 3, 1, 1, 1, 1, 1, 1, 1, 1, 1, 1, 1, 1, 1, 1, 1));
        valueIsBad("a name of no octets", Ber.field(6));
        valueIsBad("a name of 120", Ber.field(6, Ber.octets(120)));
        valueIsRead("a name of 119", Ber.field(6, Ber.octets(119)), Ber.name(2, 39));
        valueIsBad("a name of 120 and more", Ber.field(6, Ber.octets(120, 43, 6)));
        valueIsBad("a name of 129 1 and more", Ber.field(6, Ber.octets(129, 1, 43, 6)));
        valueIsBad("a name of 129 1", Ber.field(6, Ber.octets(129, 1)));
        valueIsBad("a number that begins with 128", Ber.field(6, Ber.octets(43, 128, 1)));
        valueIsBad("the first that begins with 128", Ber.field(6, Ber.octets(128, 43)));
        valueIsBad("a number that does not end", Ber.field(6, Ber.octets(43, 6, 129)));
        valueIsBad("2^32", Ber.field(6, Ber.octets(43, 144, 128, 128, 128, 0)));
        valueIsBad("six octets", Ber.field(6, Ber.octets(43, 129, 128, 128, 128, 128, 0)));
        valueIsBad("twelve octets", Ber.field(6, Ber.octets(43, 129, 128, 128, 128, 128, 128, 128, 128, 128, 128, 128, 0)));
        valueIsRead("128 within a number", Ber.field(6, Ber.octets(43, 129, 128, 0)), Ber.name(1, 3, 16384));
        byte[] badName = Ber.field(6, Ber.octets(43, 128, 1));
        Desk.dropped("a bad name", 1, Ber.ask(1, Ber.GET, Ber.pair(badName, Ber.NULL)));
        Desk.dropped("a name of 17", 1, Ber.ask(1, Ber.GET,
                Ber.pair(Ber.name(1, 3, 1, 1, 1, 1, 1, 1, 1, 1, 1, 1, 1, 1, 1, 1, 1), Ber.NULL)));
        Desk.answered("a name of 16", Ber.ask(1, Ber.GET, Ber.pair(longest, Ber.NULL)),
                Ber.answer(1, 0, 0, Ber.pair(longest, Ber.NO_OBJECT)));
    }

    private static void firstCauseCounts() {
        byte[] broken = Ber.octets(160, 1);
        Desk.dropped("version 2 before what is broken", 2, Ber.field(48, Ber.integer(2), broken));
        Desk.dropped("no community before what is broken", 3, Ber.field(48, VERSION, Ber.text("no"), broken));
        Desk.dropped("version 2 before no community", 2, Ber.field(48, Ber.integer(2), Ber.text("no"), broken));
        Desk.dropped("the outer length before version 2", 1, Ber.join(Ber.field(48, Ber.integer(2), broken), broken));
        Desk.dropped("broken behind a community", 1, Ber.field(48, VERSION, PUB, broken));
        Desk.dropped("nothing behind a community", 1, Ber.field(48, VERSION, PUB));
        Desk.dropped("nothing behind another community", 3, Ber.field(48, VERSION, Ber.text("no")));
        Desk.dropped("nothing behind version 2", 2, Ber.field(48, Ber.integer(2)));
    }
}
