/** Promises 1 to 15 and 17 to 21: the calls around a question, their edges and what they refuse. */
public final class CallsTest {
    private static final long MOST = 4294967295L;

    public static void main(String[] args) {
        aNewObject();
        feeding();
        numbers();
        scalars();
        scalarNames();
        scalarRoom();
        tables();
        columns();
        columnRoom();
        statuses();
        rowsMadeAndGone();
        values();
        texts();
        identities();
        communities();
        views();
        limits();
        ticks();
        answers();
        counts();
        tellings();
        parts();
        octetsOfEachFeed();
        tapesUpTo1200();
        leastAndMost();
        lastNumbers();
        valuesOfEachTag();
        textsUpTo40();
        namesUpTo16();
        ticksUpTo2To62();
        octetsOfTheAnswer();
        Check.finish();
    }

    private static void aNewObject() {
        TreeAgent x = new TreeAgent();
        for (int what = 0; what <= 9; what++) {
            Check.due("1: count(" + what + ") of a new object", x.count(what), 0);
        }
        Check.due("1: the clock of a new object", x.tick(0), 0);
        Check.due("1: the limit of a new object", x.limit(100), 484);
        Check.due("1: the answer of a new object", x.answer(0), -1);
        Check.due("1: rows of a new object", x.rows(0), -1);
        Check.due("1: told of a new object", x.told(0, 0), -1);
        Check.due("1: part of a new object", x.part(0, 0, 0), -1);
        Check.due("1: the tape of a new object", x.feed(1, 1), 1);
        Check.due("1: the name of a new object", x.number(1), 1);
    }

    private static void feeding() {
        TreeAgent x = new TreeAgent();
        Check.due("2: feed 8", x.feed(0x0102030405060708L, 8), 8);
        Check.due("2: feed 3 more", x.feed(0x41424344L, 3), 11);
        Check.due("2: feed -1 octets", x.feed(1, -1), -2);
        Check.due("2: feed 9 octets", x.feed(1, 9), -2);
        Check.due("2: feed least", x.feed(1, Integer.MIN_VALUE), -2);
        Check.due("2: feed most", x.feed(1, Integer.MAX_VALUE), -2);
        Check.due("2: a refused feed changed nothing", x.feed(0, 1), 12);
        Check.due("2: feed 0 empties", x.feed(5, 0), 0);
        for (int i = 1; i <= 149; i++) {
            x.feed(-1, 8);
        }
        Check.due("2: up to 1199", x.feed(1, 7), 1199);
        Check.due("2: 1201 are too many", x.feed(1, 2), -4);
        Check.due("2: the range comes first", x.feed(1, 9), -2);
        Check.due("2: up to 1200", x.feed(1, 1), 1200);
        Check.due("2: one more", x.feed(1, 1), -4);
        Check.due("2: it can be emptied", x.feed(1, 0), 0);
        Desk desk = new Desk();
        desk.scalar(4, 1, 0, 40, 1, 3);
        desk.agent.feed(0x41424344L, 3);
        desk.agent.feed(0xF1F2F3F4F5F6F7F8L, 8);
        Check.due("2: what was fed", desk.agent.text(0, 0), 11);
        int[] want = {0x42, 0x43, 0x44, 0xF1, 0xF2, 0xF3, 0xF4, 0xF5, 0xF6, 0xF7, 0xF8};
        for (int i = 0; i < want.length; i++) {
            Check.due("2: octet " + i + " of what was fed", desk.agent.part(0, 0, i), want[i]);
        }
    }

    private static void numbers() {
        TreeAgent x = new TreeAgent();
        Check.due("3: empties", x.number(-1), 0);
        Check.due("3: below -1", x.number(-2), -2);
        Check.due("3: the least long", x.number(Long.MIN_VALUE), -2);
        Check.due("3: the first 3", x.number(3), -2);
        Check.due("3: the first 2", x.number(2), 1);
        Check.due("3: the second 40", x.number(40), -2);
        Check.due("3: the second 39", x.number(39), 2);
        Check.due("3: the third 2^32", x.number(MOST + 1), -2);
        Check.due("3: the third 2^32 - 1", x.number(MOST), 3);
        for (int i = 4; i <= 16; i++) {
            Check.due("3: number " + i, x.number(0), i);
        }
        Check.due("3: a 17th", x.number(0), -4);
        Check.due("3: a 17th outside the range", x.number(MOST + 1), -2);
        Check.due("3: empties 16", x.number(-1), 0);
        Check.due("3: the first again", x.number(3), -2);
        Check.due("3: the first 0", x.number(0), 1);
        Check.due("3: the second 0", x.number(0), 2);
    }

    private static void scalars() {
        Desk desk = new Desk();
        Check.due("4: the first scalar", desk.scalar(2, 0, 5, 5, 1, 3, 1), 0);
        Check.due("4: the name is used up", desk.agent.number(2), 1);
        int[] tags = {4, 6, 64, 65, 66, 67, 70};
        for (int i = 0; i < tags.length; i++) {
            Check.due("4: tag " + tags[i], desk.scalar(tags[i], 2, -9, 9, 1, 3, 2 + i), 1 + i);
        }
        for (int tag : new int[] {-1, 0, 1, 3, 5, 48, 63, 68, 69, 71, 128, 129, 130, 258}) {
            Check.due("4: no tag " + tag, desk.scalar(tag, 1, 0, 1, 1, 4), -2);
        }
        Check.due("4: the name is used up by a refused call", desk.agent.number(2), 1);
        Check.due("4: access -1", desk.scalar(2, -1, 0, 1, 1, 4), -2);
        Check.due("4: access 3", desk.scalar(2, 3, 0, 1, 1, 4), -2);
        Check.due("4: least above most", desk.scalar(70, 1, 1, 0, 1, 4), -2);
        Check.due("4: no name", desk.scalar(2, 1, 0, 1), -2);
        Check.due("4: a name of 1", desk.scalar(2, 1, 0, 1, 1), -2);
        Check.due("4: a name of 16", desk.scalar(2, 1, 0, 1, 1, 4, 1, 1, 1, 1, 1, 1, 1, 1, 1, 1, 1, 1, 1, 1), -2);
        Check.due("4: a name of 15", desk.scalar(2, 1, 0, 1, 1, 4, 1, 1, 1, 1, 1, 1, 1, 1, 1, 1, 1, 1, 1), 8);
        Check.due("4: a name of 2", desk.scalar(2, 1, 0, 1, 1, 5), 9);
        Check.due("4: refused ones are not counted", desk.agent.count(0), 10);
    }

    private static void scalarNames() {
        Desk desk = new Desk();
        desk.scalar(2, 1, 0, 1, 1, 3, 6, 1);
        desk.table(1, 3, 7, 1);
        desk.agent.column(0, 5, 2, 1, 0, 1);
        Check.due("4: the same name", desk.scalar(2, 1, 0, 1, 1, 3, 6, 1), -3);
        Check.due("4: the name is used up by -3", desk.agent.number(2), 1);
        Check.due("4: a name below", desk.scalar(2, 1, 0, 1, 1, 3, 6, 1, 0), -3);
        Check.due("4: a name above", desk.scalar(2, 1, 0, 1, 1, 3), -3);
        Check.due("4: a table's name", desk.scalar(2, 1, 0, 1, 1, 3, 7, 1), -3);
        Check.due("4: below a table", desk.scalar(2, 1, 0, 1, 1, 3, 7, 1, 9), -3);
        Check.due("4: a column's name", desk.scalar(2, 1, 0, 1, 1, 3, 7, 1, 5), -3);
        Check.due("4: above a table", desk.scalar(2, 1, 0, 1, 1, 3, 7), -3);
        Check.due("4: a bad tag comes first", desk.scalar(3, 1, 0, 1, 1, 3, 7), -2);
        Check.due("4: another first number", desk.scalar(2, 1, 0, 1, 0, 3, 6, 1), 2);
        Check.due("4: beside", desk.scalar(2, 1, 0, 1, 1, 3, 6, 2), 3);
        Check.due("4: beside the table", desk.scalar(2, 1, 0, 1, 1, 3, 7, 0), 4);
        Check.due("5: the name of a scalar", desk.table(1, 3, 6, 2), -3);
        Check.due("5: the name is used up by -3", desk.agent.number(2), 1);
        Check.due("5: below a scalar", desk.table(1, 3, 6, 2, 1), -3);
        Check.due("5: above a scalar", desk.table(1, 3, 6), -3);
        Check.due("5: the name of a table", desk.table(1, 3, 7, 1), -3);
        Check.due("5: below a column", desk.table(1, 3, 7, 1, 5, 1), -3);
        Check.due("5: above a table", desk.table(1, 3), -3);
        Check.due("5: beside", desk.table(1, 3, 7, 2), 1);
    }

    private static void scalarRoom() {
        Desk desk = new Desk();
        for (int i = 0; i < 40; i++) {
            Check.due("4: scalar " + i, desk.scalar(2, 1, 0, 1, 1, 3, i), i);
        }
        Check.due("4: a 41st", desk.scalar(2, 1, 0, 1, 1, 3, 40), -4);
        Check.due("4: the name is used up by -4", desk.agent.number(2), 1);
        Check.due("4: a 41st with a name that is there", desk.scalar(2, 1, 0, 1, 1, 3, 39), -3);
        Check.due("18: objects", desk.agent.count(0), 40);
        desk.table(1, 4);
        Check.due("6: a 41st object", desk.agent.column(0, 1, 2, 1, 0, 1), -4);
        Check.due("7: a 41st object", desk.agent.status(0, 1), -4);
    }

    private static void tables() {
        Desk desk = new Desk();
        Check.due("5: no name", desk.table(), -2);
        Check.due("5: a name of 1", desk.table(1), -2);
        Check.due("5: the name is used up by -2", desk.agent.number(2), 1);
        Check.due("5: a name of 15", desk.table(1, 4, 1, 1, 1, 1, 1, 1, 1, 1, 1, 1, 1, 1, 1), -2);
        Check.due("5: a name of 14", desk.table(1, 4, 1, 1, 1, 1, 1, 1, 1, 1, 1, 1, 1, 1), 0);
        Check.due("5: the name is used up", desk.agent.number(2), 1);
        Check.due("5: a name of 2", desk.table(1, 5), 1);
        Check.due("5: the third", desk.table(1, 6), 2);
        Check.due("5: the fourth", desk.table(1, 7), 3);
        Check.due("5: a fifth", desk.table(1, 8), -4);
        Check.due("5: the name is used up by -4", desk.agent.number(2), 1);
        Check.due("5: a fifth that is there", desk.table(1, 7), -3);
        Check.due("5: a fifth with a bad name", desk.table(1), -2);
        Check.due("18: tables", desk.agent.count(9), 4);
        Check.due("18: tables are no objects", desk.agent.count(0), 0);
    }

    private static void columns() {
        Desk desk = new Desk();
        desk.scalar(2, 1, 0, 1, 1, 4);
        desk.table(1, 3);
        TreeAgent x = desk.agent;
        Check.due("6: table -1", x.column(-1, 1, 2, 1, 0, 1), -1);
        Check.due("6: table 1", x.column(1, 1, 2, 1, 0, 1), -1);
        Check.due("6: table 4", x.column(4, 0, 3, 1, 0, 1), -1);
        Check.due("6: last 0", x.column(0, 0, 2, 1, 0, 1), -2);
        Check.due("6: last -1", x.column(0, -1, 2, 1, 0, 1), -2);
        Check.due("6: tag 5", x.column(0, 1, 5, 1, 0, 1), -2);
        Check.due("6: access 3", x.column(0, 1, 2, 3, 0, 1), -2);
        Check.due("6: access -1", x.column(0, 1, 2, -1, 0, 1), -2);
        desk.hold(1, 3);
        Check.due("6: a column", x.column(0, 1, 2, 1, 0, 1), 1);
        Check.due("6: the name at hand is not used", x.number(1), 3);
        Check.due("6: the greatest last", x.column(0, Integer.MAX_VALUE, 70, 2, 0, 1), 2);
        Check.due("6: there is such a column", x.column(0, 1, 4, 1, 0, 1), -3);
        Check.due("6: a bad tag comes first", x.column(0, 1, 5, 1, 0, 1), -2);
        x.row(0, 9, true);
        Check.due("6: there are rows", x.column(0, 2, 4, 1, 0, 1), -3);
        Check.due("7: there are rows", x.status(0, 2), -3);
        x.row(0, 9, false);
        Check.due("6: the rows are gone", x.column(0, 2, 4, 1, 0, 1), 3);
        Check.due("18: columns are objects", x.count(0), 4);
    }

    private static void columnRoom() {
        Desk desk = new Desk();
        desk.table(1, 3);
        desk.table(1, 4);
        TreeAgent x = desk.agent;
        for (int i = 0; i < 6; i++) {
            Check.due("6: column " + i, x.column(0, 6 - i, 2, 1, 0, 1), i);
        }
        Check.due("6: a seventh", x.column(0, 7, 2, 1, 0, 1), -4);
        Check.due("6: a seventh that is there", x.column(0, 6, 2, 1, 0, 1), -3);
        Check.due("7: a seventh", x.status(0, 7), -4);
        Check.due("7: a seventh that is there", x.status(0, 6), -3);
        Check.due("6: of another table", x.column(1, 6, 2, 1, 0, 1), 6);
        x.row(0, 1, true);
        Check.due("6: a seventh, with rows", x.column(0, 7, 2, 1, 0, 1), -3);
    }

    private static void statuses() {
        Desk desk = new Desk();
        desk.table(1, 3);
        TreeAgent x = desk.agent;
        Check.due("7: table 1", x.status(1, 1), -1);
        Check.due("7: table -1", x.status(-1, 1), -1);
        Check.due("7: last 0", x.status(0, 0), -2);
        Check.due("7: last below 0", x.status(0, Integer.MIN_VALUE), -2);
        x.column(0, 1, 2, 2, 0, 100);
        Check.due("7: there is such a column", x.status(0, 1), -3);
        Check.due("7: the status", x.status(0, 2), 1);
        Check.due("7: a second status", x.status(0, 3), -3);
        Check.due("7: a second status outside", x.status(0, 0), -2);
        Check.due("6: the status is a column", x.column(0, 2, 2, 2, 0, 1), -3);
        x.row(0, 5, true);
        Check.due("7: a made row is active", x.told(1, 5), 1);
        Check.due("9: a status is not set by value()", x.value(1, 5, 2), -1);
        Check.due("9: nor outside the range", x.value(1, 5, 1L << 40), -1);
        Check.due("9: it is as it was", x.told(1, 5), 1);
    }

    private static void rowsMadeAndGone() {
        Desk desk = Desk.usual();
        TreeAgent x = desk.agent;
        Check.due("8: table 1", x.row(1, 1, true), -1);
        Check.due("8: table -1", x.row(-1, 0, true), -1);
        Check.due("8: index 0", x.row(0, 0, true), -2);
        Check.due("8: index 0 away", x.row(0, 0, false), -2);
        Check.due("8: index -1", x.row(0, -1, false), -2);
        Check.due("8: made", x.row(0, 7, true), 1);
        Check.due("8: made again", x.row(0, 7, true), 0);
        Check.due("8: not there", x.row(0, 8, false), 0);
        Check.due("19: one row", x.rows(0), 1);
        x.value(Desk.COLUMN_INTEGER, 7, 42);
        desk.text(Desk.COLUMN_TEXT, 7, "hi");
        Check.due("8: gone", x.row(0, 7, false), 1);
        Check.due("8: gone again", x.row(0, 7, false), 0);
        Check.due("19: no row", x.rows(0), 0);
        Check.due("20: a row that is gone", x.told(Desk.COLUMN_INTEGER, 7), -1);
        x.row(0, 7, true);
        Check.due("8: first values again", x.told(Desk.COLUMN_INTEGER, 7), 0);
        Check.due("8: first text again", x.told(Desk.COLUMN_TEXT, 7), 0);
        Check.due("8: the greatest index", x.row(0, Integer.MAX_VALUE, true), 1);
        for (int i = 3; i <= 16; i++) {
            Check.due("8: row " + i, x.row(0, 100 + i, true), 1);
        }
        Check.due("8: a 17th", x.row(0, 500, true), -4);
        Check.due("8: one that is there, of 16", x.row(0, 7, true), 0);
        Check.due("8: index 0 comes before no room", x.row(0, 0, true), -2);
        Check.due("19: sixteen rows", x.rows(0), 16);
        Check.due("8: one of 16 goes", x.row(0, 110, false), 1);
        Check.due("8: and another one comes", x.row(0, 500, true), 1);
        Check.due("19: rows(-1)", x.rows(-1), -1);
        Check.due("19: rows(1)", x.rows(1), -1);
        Check.due("19: rows(4)", x.rows(4), -1);
    }

    private static void values() {
        Desk desk = Desk.usual();
        TreeAgent x = desk.agent;
        x.row(0, 5, true);
        Check.due("9: object -1", x.value(-1, 0, 1), -1);
        Check.due("9: object 11", x.value(11, 0, 1), -1);
        Check.due("9: a text", x.value(Desk.SCALAR_TEXT, 0, 1), -1);
        Check.due("9: a name", x.value(Desk.SCALAR_NAME, 0, 1), -1);
        Check.due("9: a scalar's index 1", x.value(Desk.SCALAR_INTEGER, 1, 1), -1);
        Check.due("9: a scalar's index -1", x.value(Desk.SCALAR_INTEGER, -1, 1), -1);
        Check.due("9: a column's index 0", x.value(Desk.COLUMN_INTEGER, 0, 1), -1);
        Check.due("9: no such row", x.value(Desk.COLUMN_INTEGER, 6, 1), -1);
        Check.due("9: -1 comes first", x.value(Desk.COLUMN_INTEGER, 6, 1L << 40), -1);
        Check.due("9: an integer out of its bounds", x.value(Desk.SCALAR_INTEGER, 0, 2147483647L), 1);
        Check.due("9: an integer that is none", x.value(Desk.SCALAR_INTEGER, 0, 2147483648L), -2);
        Check.due("20: it stays", x.told(Desk.SCALAR_INTEGER, 0), 2147483647L);
        Check.due("9: the least integer", x.value(Desk.SCALAR_INTEGER, 0, -2147483648L), 1);
        Check.due("9: one below it", x.value(Desk.SCALAR_INTEGER, 0, -2147483649L), -2);
        Check.due("9: an object without access", x.value(Desk.HIDDEN, 0, MOST), 1);
        Check.due("20: an object without access", x.told(Desk.HIDDEN, 0), MOST);
        Check.due("9: a gauge of 2^32", x.value(Desk.HIDDEN, 0, MOST + 1), -2);
        Check.due("9: a gauge of -1", x.value(Desk.HIDDEN, 0, -1), -2);
        Check.due("9: a counter", x.value(Desk.COLUMN_COUNTER, 5, MOST), 1);
        Check.due("9: a counter of -1", x.value(Desk.COLUMN_COUNTER, 5, -1), -2);
        Check.due("20: the counter", x.told(Desk.COLUMN_COUNTER, 5), MOST);
        Check.due("9: a long counter", x.value(Desk.SCALAR_LONG, 0, Long.MIN_VALUE), 1);
        Check.due("20: the long counter", x.told(Desk.SCALAR_LONG, 0), Long.MIN_VALUE);
        Check.due("9: an address", x.value(Desk.SCALAR_ADDRESS, 0, -1), 1);
        Check.due("20: its lowest 32 bits", x.told(Desk.SCALAR_ADDRESS, 0), MOST);
        Check.due("9: the clock's scalar", x.value(Desk.CLOCK, 0, 5), 1);
        Check.due("9: the clock's scalar, outside", x.value(Desk.CLOCK, 0, -1), -2);
        Check.due("20: it tells the clock", x.told(Desk.CLOCK, 0), 0);
    }

    private static void texts() {
        Desk desk = Desk.usual();
        TreeAgent x = desk.agent;
        x.row(0, 5, true);
        Check.due("10: longer than its bounds", desk.text(Desk.SCALAR_TEXT, 0, "x".repeat(40)), 40);
        Check.due("10: the tape is used up", x.feed(1, 1), 1);
        Check.due("10: 41 octets", desk.text(Desk.SCALAR_TEXT, 0, "y".repeat(41)), -2);
        Check.due("10: the tape is used up by -2", x.feed(1, 1), 1);
        Check.due("20: the text stays", x.told(Desk.SCALAR_TEXT, 0), 40);
        Check.due("10: another tag", desk.text(Desk.SCALAR_INTEGER, 0, "y"), -1);
        Check.due("10: the tape is used up by -1", x.feed(1, 1), 1);
        Check.due("10: 41 octets and another tag", desk.text(Desk.SCALAR_NAME, 0, "y".repeat(41)), -1);
        Check.due("10: object 11", desk.text(11, 0, "y"), -1);
        Check.due("10: index 1", desk.text(Desk.SCALAR_TEXT, 1, "y"), -1);
        Check.due("10: no such row", desk.text(Desk.COLUMN_TEXT, 6, "y"), -1);
        Check.due("10: of a column", desk.text(Desk.COLUMN_TEXT, 5, "yes"), 3);
        Check.due("21: of a column", x.part(Desk.COLUMN_TEXT, 5, 2), 's');
        Check.due("10: no octets", desk.text(Desk.SCALAR_TEXT, 0, ""), 0);
        Check.due("20: no octets", x.told(Desk.SCALAR_TEXT, 0), 0);
        Check.due("21: no octets", x.part(Desk.SCALAR_TEXT, 0, 0), -1);
    }

    private static void identities() {
        Desk desk = Desk.usual();
        TreeAgent x = desk.agent;
        int name = Desk.SCALAR_NAME;
        Check.due("20: the first name has two numbers", x.told(name, 0), 2);
        Check.due("21: the first of them", x.part(name, 0, 0), 0);
        Check.due("21: the second of them", x.part(name, 0, 1), 0);
        Check.due("21: there is no third", x.part(name, 0, 2), -1);
        Check.due("11: a name", desk.identity(name, 0, 2, 39, 128, MOST), 4);
        Check.due("11: the name is used up", x.number(0), 1);
        Check.due("20: its numbers", x.told(name, 0), 4);
        Check.due("21: its last number", x.part(name, 0, 3), MOST);
        Check.due("11: of 1", desk.identity(name, 0, 1), -2);
        Check.due("11: the name is used up by -2", x.number(0), 1);
        Check.due("11: of none", desk.identity(name, 0), -2);
        Check.due("11: another tag", desk.identity(Desk.SCALAR_TEXT, 0, 1, 3), -1);
        Check.due("11: the name is used up by -1", x.number(0), 1);
        Check.due("11: -1 comes first", desk.identity(Desk.SCALAR_TEXT, 0, 1), -1);
        Check.due("11: no instance", desk.identity(name, 1, 1, 3), -1);
        Check.due("11: object -1", desk.identity(-1, 0, 1, 3), -1);
        Check.due("20: it stays", x.told(name, 0), 4);
        Check.due("11: of 16", desk.identity(name, 0, 1, 1, 1, 1, 1, 1, 1, 1, 1, 1, 1, 1, 1, 1, 1, 9), 16);
        Check.due("21: its 16th", x.part(name, 0, 15), 9);
        Check.due("11: of 2", desk.identity(name, 0, 1, 3), 2);
        Check.due("21: a shorter name", x.part(name, 0, 2), -1);
    }

    private static void communities() {
        Desk desk = new Desk();
        TreeAgent x = desk.agent;
        Check.due("12: an empty name", desk.community("", true), 0);
        Check.due("12: there is such a one", desk.community("", false), -3);
        Check.due("12: 41 octets", desk.community("c".repeat(41), true), -2);
        Check.due("12: the tape is used up by -2", x.feed(1, 1), 1);
        Check.due("12: 40 octets", desk.community("c".repeat(40), true), 1);
        Check.due("12: the tape is used up", x.feed(1, 1), 1);
        Check.due("12: the same 40", desk.community("c".repeat(40), true), -3);
        Check.due("12: the tape is used up by -3", x.feed(1, 1), 1);
        Check.due("12: a begin of it", desk.community("c".repeat(39), true), 2);
        for (int i = 3; i < 8; i++) {
            Check.due("12: community " + i, desk.community("n" + i, i % 2 == 0), i);
        }
        Check.due("12: a ninth", desk.community("n8", true), -4);
        Check.due("12: the tape is used up by -4", x.feed(1, 1), 1);
        Check.due("12: a ninth that is there", desk.community("n7", true), -3);
        Check.due("12: a ninth too long", desk.community("c".repeat(41), true), -2);
        Check.due("18: communities", x.count(8), 8);
    }

    private static void views() {
        Desk desk = new Desk();
        TreeAgent x = desk.agent;
        desk.community("pub", true);
        Check.due("13: community 1", desk.view(1, true, 1, 3), -1);
        Check.due("13: the name is used up by -1", x.number(0), 1);
        Check.due("13: community -1", desk.view(-1, true), -1);
        Check.due("13: community 8", desk.view(8, true, 1, 3), -1);
        Check.due("13: a name of 1", desk.view(0, true, 1), -2);
        Check.due("13: the name is used up by -2", x.number(0), 1);
        Check.due("13: no name", desk.view(0, true), -2);
        Check.due("13: the first", desk.view(0, true, 1, 3), 1);
        Check.due("13: the name is used up", x.number(0), 1);
        Check.due("13: the same", desk.view(0, true, 1, 3), 2);
        Check.due("13: of 16", desk.view(0, false, 1, 1, 1, 1, 1, 1, 1, 1, 1, 1, 1, 1, 1, 1, 1, 1), 3);
        for (int i = 4; i <= 8; i++) {
            Check.due("13: row " + i, desk.view(0, false, 1, i), i);
        }
        Check.due("13: a ninth", desk.view(0, true, 1, 9), -4);
        Check.due("13: the name is used up by -4", x.number(0), 1);
        Check.due("13: a ninth with a bad name", desk.view(0, true, 1), -2);
    }

    private static void limits() {
        TreeAgent x = new TreeAgent();
        Check.due("14: 99", x.limit(99), -2);
        Check.due("14: 1001", x.limit(1001), -2);
        Check.due("14: -1", x.limit(-1), -2);
        Check.due("14: 100", x.limit(100), 484);
        Check.due("14: 1000", x.limit(1000), 100);
        Check.due("14: 0", x.limit(0), -2);
        Check.due("14: what it was", x.limit(500), 1000);
    }

    private static void ticks() {
        Desk desk = Desk.usual();
        TreeAgent x = desk.agent;
        Check.due("15: below 0", x.tick(-1), -2);
        Check.due("15: the least", x.tick(Long.MIN_VALUE), -2);
        Check.due("15: by 0", x.tick(0), 0);
        Check.due("15: by 2^32 + 3", x.tick(4294967299L), 4294967299L);
        Check.due("20: modulo 2^32", x.told(Desk.CLOCK, 0), 3);
        Check.due("15: above 2^62", x.tick((1L << 62) - 4294967298L), -2);
        Check.due("15: the greatest long", x.tick(Long.MAX_VALUE), -2);
        Check.due("15: to 2^62", x.tick((1L << 62) - 4294967299L), 1L << 62);
        Check.due("20: 2^62 modulo 2^32", x.told(Desk.CLOCK, 0), 0);
        Check.due("15: by 1 more", x.tick(1), -2);
        Check.due("15: by 0 more", x.tick(0), 1L << 62);
        Desk other = new Desk();
        other.scalar(67, 2, 0, 100, 1, 3);
        other.scalar(67, 0, 0, 100, 1, 4);
        other.table(1, 5);
        other.agent.column(0, 1, 67, 1, 0, 100);
        other.agent.row(0, 1, true);
        other.agent.tick(77);
        Check.due("20: ticks that may be set", other.agent.told(0, 0), 0);
        Check.due("20: ticks without access", other.agent.told(1, 0), 0);
        Check.due("20: ticks of a column", other.agent.told(2, 1), 0);
    }

    private static void answers() {
        Desk desk = Desk.usual();
        TreeAgent x = desk.agent;
        int size = desk.feed(Ber.ask(1, Ber.GET)).agent.question();
        Check.due("16: an answer without rows", size, Ber.answer(1, 0, 0).length);
        Check.due("17: octet 0", x.answer(0), 48);
        Check.due("17: the last octet", x.answer(size - 1), 0);
        Check.due("17: behind it", x.answer(size), -1);
        Check.due("17: octet -1", x.answer(-1), -1);
        Check.due("17: the least", x.answer(Integer.MIN_VALUE), -1);
        Check.due("17: the greatest", x.answer(Integer.MAX_VALUE), -1);
        x.feed(1, 1);
        Check.due("17: it stays", x.answer(0), 48);
        Check.due("16: a dropped one", x.question(), 0);
        Check.due("17: there is no answer then", x.answer(0), -1);
        Check.due("16: the tape is used up", x.feed(1, 1), 1);
        desk.feed(Ber.ask(1, Ber.GET)).agent.question();
        Check.due("16: the tape is used up by an answer", x.feed(1, 1), 1);
    }

    private static void counts() {
        Desk desk = Desk.usual();
        TreeAgent x = desk.agent;
        Check.due("18: what -1", x.count(-1), -2);
        Check.due("18: what 10", x.count(10), -2);
        Check.due("18: the least what", x.count(Integer.MIN_VALUE), -2);
        Check.due("18: the greatest what", x.count(Integer.MAX_VALUE), -2);
        Check.due("18: objects", x.count(0), 11);
        Check.due("18: communities", x.count(8), 2);
        Check.due("18: tables", x.count(9), 1);
    }

    private static void tellings() {
        Desk desk = Desk.usual();
        TreeAgent x = desk.agent;
        x.row(0, 5, true);
        Check.due("20: object -1", x.told(-1, 0), -1);
        Check.due("20: object 11", x.told(11, 0), -1);
        Check.due("20: object 40", x.told(40, 0), -1);
        Check.due("20: a scalar's index 1", x.told(Desk.SCALAR_INTEGER, 1), -1);
        Check.due("20: a column's index 0", x.told(Desk.COLUMN_INTEGER, 0), -1);
        Check.due("20: a column's index -1", x.told(Desk.COLUMN_INTEGER, -1), -1);
        Check.due("20: no such row", x.told(Desk.COLUMN_INTEGER, 4), -1);
        Check.due("20: first values", x.told(Desk.COLUMN_INTEGER, 5), 0);
        Check.due("20: a first address", x.told(Desk.SCALAR_ADDRESS, 0), 0);
        Check.due("20: a status", x.told(Desk.COLUMN_STATUS, 5), 1);
    }

    private static void parts() {
        Desk desk = Desk.usual();
        TreeAgent x = desk.agent;
        desk.text(Desk.SCALAR_TEXT, 0, "h\u00ff");
        x.value(Desk.SCALAR_INTEGER, 0, 5);
        Check.due("21: octet 0", x.part(Desk.SCALAR_TEXT, 0, 0), 'h');
        Check.due("21: octet 1", x.part(Desk.SCALAR_TEXT, 0, 1), 255);
        Check.due("21: octet 2", x.part(Desk.SCALAR_TEXT, 0, 2), -1);
        Check.due("21: octet -1", x.part(Desk.SCALAR_TEXT, 0, -1), -1);
        Check.due("21: octet 40", x.part(Desk.SCALAR_TEXT, 0, 40), -1);
        Check.due("21: another index", x.part(Desk.SCALAR_TEXT, 1, 0), -1);
        Check.due("21: a number", x.part(Desk.SCALAR_INTEGER, 0, 0), -1);
        Check.due("21: an address", x.part(Desk.SCALAR_ADDRESS, 0, 0), -1);
        Check.due("21: object -1", x.part(-1, 0, 0), -1);
        Check.due("21: object 11", x.part(11, 0, 0), -1);
    }

    /** "The n lowest octets of v, the highest first": each n, of a v whose octets differ. */
    private static void octetsOfEachFeed() {
        for (int n = 1; n <= 8; n++) {
            Desk desk = Desk.usual();
            Check.due("2: feed of " + n, desk.agent.feed(0xF1E2D3C4B5A69788L, n), n);
            Check.due("10: a text of " + n, desk.agent.text(Desk.SCALAR_TEXT, 0), n);
            int[] octets = {0xF1, 0xE2, 0xD3, 0xC4, 0xB5, 0xA6, 0x97, 0x88};
            for (int i = 0; i < n; i++) {
                Check.due("21: octet " + i + " of " + n, desk.agent.part(Desk.SCALAR_TEXT, 0, i), octets[8 - n + i]);
            }
        }
    }

    /** "-4 it would have more than 1200": each n, up to it and over it by one. */
    private static void tapesUpTo1200() {
        for (int n = 1; n <= 8; n++) {
            Desk desk = new Desk();
            desk.feed(new byte[1200 - n]);
            Check.due("2: 1200 by " + n, desk.agent.feed(-1, n), 1200);
            Check.due("2: 1201", desk.agent.feed(-1, 1), -4);
            Check.due("2: it is emptied", desk.agent.feed(-1, 0), 0);
            desk.feed(new byte[1201 - n]);
            Check.due("2: 1201 by " + n, desk.agent.feed(-1, n), -4);
            Check.due("2: 1200 by one less", n == 1 ? 1200 : desk.agent.feed(-1, n - 1), 1200);
        }
    }

    /** "least is above most": not the same, and not of column(), which names the tag and the access alone. */
    private static void leastAndMost() {
        Desk desk = new Desk();
        Check.due("4: the same", desk.scalar(2, 1, 7, 7, 1, 3, 1), 0);
        Check.due("4: one above", desk.scalar(2, 1, 8, 7, 1, 3, 2), -2);
        Check.due("4: the whole range", desk.scalar(2, 1, Long.MIN_VALUE, Long.MAX_VALUE, 1, 3, 2), 1);
        Check.due("4: turned round", desk.scalar(2, 1, Long.MAX_VALUE, Long.MIN_VALUE, 1, 3, 3), -2);
        Check.due("4: both the least", desk.scalar(2, 1, Long.MIN_VALUE, Long.MIN_VALUE, 1, 3, 3), 2);
        Check.due("4: both the most", desk.scalar(2, 1, Long.MAX_VALUE, Long.MAX_VALUE, 1, 3, 4), 3);
        desk.table(1, 4);
        Check.due("6: one above", desk.agent.column(0, 1, 2, 1, 8, 7), 4);
    }

    /** "the last number is not 1 .. 2^31 - 1": of column() and status(). */
    private static void lastNumbers() {
        for (int last : new int[] {Integer.MIN_VALUE, -1, 0, 1, 2147483647}) {
            Desk desk = new Desk();
            desk.table(1, 3);
            desk.table(1, 4);
            Check.due("6: last " + last, desk.agent.column(0, last, 2, 1, 0, 0), last < 1 ? -2 : 0);
            Check.due("7: last " + last, desk.agent.status(1, last), last < 1 ? -2 : 1);
            Check.due("8: index " + last, desk.agent.row(0, last, true), last < 1 ? -2 : 1);
            Check.due("8: index " + last + " again", desk.agent.row(0, last, true), last < 1 ? -2 : 0);
            Check.due("8: index " + last + " away", desk.agent.row(0, last, false), last < 1 ? -2 : 1);
            Check.due("8: index " + last + " away again", desk.agent.row(0, last, false), last < 1 ? -2 : 0);
        }
    }

    /** "-2 an INTEGER that is not one; of 65 .. 67 one that is not 0 .. 2^32 - 1. (Bounds do not count.)" */
    private static void valuesOfEachTag() {
        long[] values = {Long.MIN_VALUE, -4294967297L, -2147483649L, -2147483648L, -1, 0, 1, 2147483647L, 2147483648L, MOST,
            MOST + 1, Long.MAX_VALUE};
        for (int tag : new int[] {2, 64, 65, 66, 67, 70}) {
            Desk desk = new Desk();
            desk.scalar(tag, 2, 5, 5, 1, 3);
            desk.table(1, 4);
            desk.agent.column(0, 1, tag, 2, 5, 5);
            desk.agent.row(0, 3, true);
            for (long v : values) {
                boolean good = tag == 64 || tag == 70 || (tag == 2 ? v == (int) v : v >= 0 && v <= MOST);
                for (int object = 0; object < 2; object++) {
                    int index = 3 * object;
                    long before = desk.agent.told(object, index);
                    Check.due("9: " + v + " of " + tag, desk.agent.value(object, index, v), good ? 1 : -2);
                    long now = tag == 64 ? v & MOST : good ? v : before;
                    Check.due("20: " + v + " of " + tag, desk.agent.told(object, index), now);
                }
            }
        }
    }

    /** "-2 there are more than 40": of text() and of community(). */
    private static void textsUpTo40() {
        for (int octets : new int[] {0, 1, 39, 40, 41, 128, 1200}) {
            Desk desk = Desk.usual();
            boolean good = octets <= 40;
            desk.feed(new byte[octets]);
            Check.due("10: a text of " + octets, desk.agent.text(Desk.SCALAR_TEXT, 0), good ? octets : -2);
            Check.due("20: a text of " + octets, desk.agent.told(Desk.SCALAR_TEXT, 0), good ? octets : 0);
            Check.due("21: its last octet", desk.agent.part(Desk.SCALAR_TEXT, 0, octets - 1), good && octets > 0 ? 0 : -1);
            Check.due("21: behind it", desk.agent.part(Desk.SCALAR_TEXT, 0, octets), -1);
            desk.feed(new byte[octets]);
            Check.due("12: a community of " + octets, desk.agent.community(true), good ? 2 : -2);
            Check.due("18: communities", desk.agent.count(8), good ? 3 : 2);
        }
    }

    /** Each length of a NAME at hand, for the calls that use it up: 2 .. 15, 2 .. 14, 2 .. 16 and 2 .. 16 numbers. */
    private static void namesUpTo16() {
        for (int n = 0; n <= 16; n++) {
            long[] name = new long[n];
            java.util.Arrays.fill(name, 2);
            Check.due("4: a name of " + n, new Desk().scalar(2, 1, 0, 0, name), n >= 2 && n <= 15 ? 0 : -2);
            Check.due("5: a name of " + n, new Desk().table(name), n >= 2 && n <= 14 ? 0 : -2);
            Desk desk = Desk.usual();
            Check.due("11: a name of " + n, desk.identity(Desk.SCALAR_NAME, 0, name), n >= 2 ? n : -2);
            Check.due("20: a name of " + n, desk.agent.told(Desk.SCALAR_NAME, 0), n >= 2 ? n : 2);
            Check.due("21: its last number", desk.agent.part(Desk.SCALAR_NAME, 0, n - 1), n >= 2 ? 2 : n == 0 ? -1 : 0);
            Check.due("21: behind it", desk.agent.part(Desk.SCALAR_NAME, 0, n), n >= 2 ? -1 : 0);
            Check.due("13: a name of " + n, desk.view(0, true, name), n >= 2 ? 1 : -2);
        }
        Desk longest = Desk.usual();
        longest.scalar(2, 1, 0, 0, 1, 9, 1, 1, 1, 1, 1, 1, 1, 1, 1, 1, 1, 1, 1);
        longest.table(1, 8, 1, 1, 1, 1, 1, 1, 1, 1, 1, 1, 1, 1);
        Check.due("6: a column of the longest table", longest.agent.column(1, 2147483647, 2, 1, 0, 0), 12);
        longest.agent.row(1, 2147483647, true);
        long[] instance = {1, 8, 1, 1, 1, 1, 1, 1, 1, 1, 1, 1, 1, 1, 2147483647, 2147483647};
        long[] scalar = {1, 9, 1, 1, 1, 1, 1, 1, 1, 1, 1, 1, 1, 1, 1, 0};
        byte[] next = Ber.ask(1, Ber.NEXT, Ber.pair(Ber.name(1, 8), Ber.NULL), Ber.pair(Ber.name(1, 9), Ber.NULL));
        Check.due("16: the longest names of instances", longest.ask(next), Ber.answer(1, 0, 0,
                Ber.pair(Ber.name(instance), Ber.integer(0)), Ber.pair(Ber.name(scalar), Ber.integer(0))));
    }

    /** "-2 n is below 0, or it would be above 2^62": at once, and step by step. */
    private static void ticksUpTo2To62() {
        long most = 1L << 62;
        for (long first : new long[] {0, 1, most - 1, most}) {
            TreeAgent x = new TreeAgent();
            Check.due("15: by " + first, x.tick(first), first);
            Check.due("15: by one too many", x.tick(most - first + 1), -2);
            Check.due("15: by the most", x.tick(Long.MAX_VALUE), -2);
            Check.due("15: by -1", x.tick(-1), -2);
            Check.due("15: it stays", x.tick(0), first);
            Check.due("15: up to 2^62", x.tick(most - first), most);
            Check.due("15: it stays at 2^62", x.tick(0), most);
            Check.due("15: one more", x.tick(1), -2);
        }
        TreeAgent one = new TreeAgent();
        Check.due("15: 2^62 + 1 at once", one.tick(most + 1), -2);
        Check.due("15: 2^63 - 1 at once", one.tick(Long.MAX_VALUE), -2);
        Check.due("15: nothing has gone on", one.tick(0), 0);
    }

    /** "Octet i of the latest answer. -1 there is none": of an answer, a shorter one behind it, and a dropped one. */
    private static void octetsOfTheAnswer() {
        Desk desk = Desk.usual();
        int size = desk.feed(Ber.ask(1, Ber.GET, Ber.pair(Ber.name(1, 3), Ber.NULL))).agent.question();
        Check.due("17: the last octet is 0 octets of NO OBJECT", desk.agent.answer(size - 1), 0);
        Check.due("17: behind it", desk.agent.answer(size), -1);
        int shorter = desk.feed(Ber.ask(1, Ber.GET)).agent.question();
        Check.due("17: the last octet of a shorter one", desk.agent.answer(shorter - 1), 0);
        Check.due("17: behind the shorter one", desk.agent.answer(shorter), -1);
        Check.due("17: where the longer one was", desk.agent.answer(size - 1), -1);
        Check.due("16: dropped", desk.agent.question(), 0);
        for (int i : new int[] {Integer.MIN_VALUE, -1, 0, 1, shorter - 1, 999, 1000, Integer.MAX_VALUE}) {
            Check.due("17: octet " + i + " of none", desk.agent.answer(i), -1);
        }
    }
}
