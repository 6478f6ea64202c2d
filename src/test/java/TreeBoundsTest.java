import java.util.Arrays;

/** What the document's Terms name as bounds of OBJECTS, COMMUNITIES and VIEWS, and of GET, NEXT and MANY. */
public final class TreeBoundsTest {
    private static final long MOST = 4294967295L;
    private static final int LAST_INDEX = 2147483647;
    private static final int[] TAGS = {2, 4, 6, 64, 65, 66, 67, 70};

    public static void main(String[] args) {
        fortyObjects();
        numberedTogether();
        accessOfObjects();
        indexesOfRows();
        firstValuesOfScalars();
        firstValuesOfRows();
        clockModulo();
        clockWhateverItWasGiven();
        notTheClock();
        sixColumnsSixteenRows();
        statusOfARow();
        inTheViewWithoutAny();
        longestOfTheView();
        sameOneOfTheView();
        viewsOfEachCommunity();
        getWithoutReadable();
        nextWithoutReadable();
        firstsOfMany();
        timesOfMany();
        manyTillARoundOfEnds();
        fortyRowsOfMany();
        Check.finish();
    }

    private static byte[] asked(long... name) {
        return Ber.pair(Ber.name(name), Ber.NULL);
    }

    private static byte[] told(byte[] value, long... name) {
        return Ber.pair(Ber.name(name), value);
    }

    private static Desk withPub() {
        Desk desk = new Desk();
        desk.community("pub", true);
        return desk;
    }

    private static void get(String what, Desk desk, byte[] value, long... name) {
        Check.due("16: GET, " + what, desk.ask(Ber.ask(1, Ber.GET, asked(name))), Ber.answer(1, 0, 0, told(value, name)));
    }

    private static void next(String what, Desk desk, long[] from, byte[] row) {
        Check.due("16: NEXT, " + what, desk.ask(Ber.ask(1, Ber.NEXT, asked(from))), Ber.answer(1, 0, 0, row));
    }

    /** "numbered together from 0 as they are made (40 at most)": 16 scalars and four tables of six columns. */
    private static void fortyObjects() {
        Desk desk = withPub();
        for (int i = 0; i < 4; i++) {
            Check.due("5: table " + i, desk.table(1, 5, i), i);
        }
        for (int i = 0; i < 39; i++) {
            boolean ofTable = i < 23;
            int made = ofTable ? desk.agent.column(i / 6, 1 + i % 6, 2, 1, 0, 0) : desk.scalar(2, 1, 0, 0, 1, 6, i);
            Check.due("4, 6: object " + i, made, i);
        }
        Check.due("18: 39 objects", desk.agent.count(0), 39);
        Check.due("7: the 40th", desk.agent.status(3, 9), 39);
        Check.due("4: a 41st scalar", desk.scalar(2, 1, 0, 0, 1, 7), -4);
        Check.due("6: a 41st column", desk.agent.column(3, 8, 2, 1, 0, 0), -4);
        Check.due("18: 40 objects", desk.agent.count(0), 40);
        desk.agent.row(3, 5, true);
        get("the 40th", desk, Ber.integer(1), 1, 5, 3, 9, 5);
        get("the 39th", desk, Ber.integer(0), 1, 6, 38, 0);
    }

    /** A table has no number among the objects, and a refused object takes none. */
    private static void numberedTogether() {
        Desk desk = new Desk();
        Check.due("4: the first", desk.scalar(2, 1, 0, 0, 1, 3), 0);
        Check.due("5: a table", desk.table(1, 4), 0);
        Check.due("7: a status", desk.agent.status(0, 5), 1);
        Check.due("4: a refused one", desk.scalar(2, 1, 0, 0, 1, 4, 1), -3);
        Check.due("6: a refused one", desk.agent.column(0, 5, 2, 1, 0, 0), -3);
        Check.due("6: a column", desk.agent.column(0, 1, 2, 1, 0, 0), 2);
        Check.due("4: the last", desk.scalar(2, 1, 0, 0, 1, 5), 3);
    }

    /** "an ACCESS (0 none, 1 read, 2 read and set)". */
    private static void accessOfObjects() {
        byte[] set = Ber.pair(Ber.name(1, 3, 0), Ber.integer(4));
        byte[][] values = {Ber.NO_OBJECT, Ber.integer(0), Ber.integer(4)};
        int[] errors = {17, 17, 0};
        for (int access = 0; access <= 2; access++) {
            Desk desk = withPub();
            desk.scalar(2, access, 0, 9, 1, 3);
            Check.due("16: SET with ACCESS " + access, desk.ask(Ber.ask(1, Ber.SET, set)),
                    Ber.answer(1, errors[access], errors[access] == 0 ? 0 : 1, set));
            get("with ACCESS " + access, desk, values[access], 1, 3, 0);
            byte[] row = access == 0 ? told(Ber.END, 1, 3) : told(values[access], 1, 3, 0);
            next("with ACCESS " + access, desk, new long[] {1, 3}, row);
        }
    }

    /** "of a column its name and the INDEX (1 .. 2^31 - 1) of a ROW of the table". */
    private static void indexesOfRows() {
        Desk desk = withPub();
        desk.table(1, 3);
        desk.agent.column(0, 1, 2, 1, 0, 0);
        desk.agent.column(0, 2, 65, 1, 0, 0);
        desk.agent.row(0, 1, true);
        desk.agent.row(0, LAST_INDEX, true);
        desk.agent.value(0, 1, 11);
        desk.agent.value(0, LAST_INDEX, 12);
        get("the least index", desk, Ber.integer(11), 1, 3, 1, 1);
        get("the greatest index", desk, Ber.integer(12), 1, 3, 1, LAST_INDEX);
        for (long index : new long[] {0, 2, LAST_INDEX - 1, LAST_INDEX + 1L, LAST_INDEX + 2L, MOST}) {
            get("the index " + index, desk, Ber.NO_INSTANCE, 1, 3, 1, index);
        }
        byte[] one = told(Ber.integer(11), 1, 3, 1, 1);
        byte[] last = told(Ber.integer(12), 1, 3, 1, LAST_INDEX);
        byte[] count = told(Ber.number(65, 0), 1, 3, 2, 1);
        next("from the column", desk, new long[] {1, 3, 1}, one);
        next("from the index 0", desk, new long[] {1, 3, 1, 0}, one);
        next("from the index 1", desk, new long[] {1, 3, 1, 1}, last);
        next("from the index 2^31 - 2", desk, new long[] {1, 3, 1, LAST_INDEX - 1}, last);
        next("from the index 2^31 - 1", desk, new long[] {1, 3, 1, LAST_INDEX}, count);
        next("from the index 2^31", desk, new long[] {1, 3, 1, LAST_INDEX + 1L}, count);
        next("from the index 2^32 - 1", desk, new long[] {1, 3, 1, MOST}, count);
    }

    private static byte[] firstValue(int tag) {
        String[] octets = {"020100", "0400", "060100", "400400000000", "410100", "420100", "430100", "460100"};
        return Ber.hex(octets[Arrays.binarySearch(TAGS, tag)]);
    }

    private static void isFirst(String what, Desk desk, int object, int index, int tag) {
        Check.due("20: " + what + " of the tag " + tag, desk.agent.told(object, index), tag == 6 ? 2 : 0);
        for (int i = 0; i < 3; i++) {
            Check.due("21: " + what + " of the tag " + tag, desk.agent.part(object, index, i), tag == 6 && i < 2 ? 0 : -1);
        }
    }

    /** "Values are 0, or have no octets (of an ADDRESS four 0, of a NAME 0.0) at first": also outside of their bounds. */
    private static void firstValuesOfScalars() {
        for (int tag : TAGS) {
            Desk desk = withPub();
            desk.scalar(tag, 2, 5, 9, 1, 3);
            isFirst("a first value", desk, 0, 0, tag);
            get("a first value of the tag " + tag, desk, firstValue(tag), 1, 3, 0);
        }
    }

    /** The same of a ROW, made by row() and by each STATUS that makes one, where another one was with other values. */
    private static void firstValuesOfRows() {
        for (int tag : TAGS) {
            for (int way = 3; way <= 5; way++) {
                Desk desk = withPub();
                desk.table(1, 3);
                desk.agent.column(0, 1, tag, 2, 5, 9);
                desk.agent.status(0, 2);
                desk.agent.row(0, 8, true);
                desk.agent.value(0, 8, 77);
                desk.text(0, 8, "seven");
                desk.identity(0, 8, 1, 3, 7);
                desk.agent.row(0, 8, false);
                if (way == 3) {
                    desk.agent.row(0, 9, true);
                } else {
                    desk.ask(Ber.ask(1, Ber.SET, Ber.pair(Ber.name(1, 3, 2, 9), Ber.integer(way))));
                }
                isFirst("a row's first value", desk, 0, 9, tag);
                get("a row's first value of the tag " + tag, desk, firstValue(tag), 1, 3, 1, 9);
                Check.due("20: the STATUS", desk.agent.told(1, 9), way == 5 ? 2 : 1);
            }
        }
    }

    /** "a SCALAR of TICKS with ACCESS 1 tells the CLOCK modulo 2^32 (in answers and by told()". */
    private static void clockModulo() {
        long[] clocks = {0, 1, 127, 128, 2147483647L, 2147483648L, MOST, MOST + 1, MOST + 2, 2 * MOST + 1, 2 * MOST + 2,
            (1L << 62) - 1, 1L << 62};
        String[] octets = {"00", "01", "7f", "0080", "7fffffff", "0080000000", "00ffffffff", "00", "01", "00ffffffff", "00",
            "00ffffffff", "00"};
        long[] ticks = {0, 1, 127, 128, 2147483647L, 2147483648L, MOST, 0, 1, MOST, 0, MOST, 0};
        Desk desk = Desk.usual();
        long clock = 0;
        for (int i = 0; i < clocks.length; i++) {
            Check.due("15: the clock", desk.agent.tick(clocks[i] - clock), clocks[i]);
            clock = clocks[i];
            byte[] row = told(Ber.field(67, Ber.hex(octets[i])), 1, 3, 6, 1, 3, 0);
            Check.due("20: the clock at " + clock, desk.agent.told(Desk.CLOCK, 0), ticks[i]);
            get("the clock at " + clock, desk, Ber.field(67, Ber.hex(octets[i])), 1, 3, 6, 1, 3, 0);
            next("the clock at " + clock, desk, new long[] {1, 3, 6, 1, 3}, row);
            Check.due("16: MANY, the clock at " + clock, desk.ask(Ber.many(0, 1, asked(1, 3, 6, 1, 3))),
                    Ber.answer(1, 0, 0, row));
        }
    }

    /** "whatever it was given)". */
    private static void clockWhateverItWasGiven() {
        Desk desk = Desk.usual();
        desk.agent.tick(5);
        Check.due("9: the clock's scalar is given 99", desk.agent.value(Desk.CLOCK, 0, 99), 1);
        Check.due("20: it tells the clock", desk.agent.told(Desk.CLOCK, 0), 5);
        get("it tells the clock", desk, Ber.number(67, 5), 1, 3, 6, 1, 3, 0);
        desk.agent.tick(1);
        Check.due("20: it goes on", desk.agent.told(Desk.CLOCK, 0), 6);
        Check.due("9: 2^32 is none of its values", desk.agent.value(Desk.CLOCK, 0, MOST + 1), -2);
    }

    /** TICKS with another ACCESS, TICKS of a column, and other tags tell what they were given. */
    private static void notTheClock() {
        Desk desk = withPub();
        desk.scalar(67, 0, 0, 0, 1, 1);
        desk.scalar(67, 2, 0, 0, 1, 2);
        desk.scalar(66, 1, 0, 0, 1, 3);
        desk.table(1, 4);
        desk.agent.column(0, 1, 67, 1, 0, 0);
        desk.agent.row(0, 1, true);
        desk.agent.tick(1000);
        for (int object = 0; object < 4; object++) {
            Check.due("20: not the clock, " + object, desk.agent.told(object, object == 3 ? 1 : 0), 0);
            desk.agent.value(object, object == 3 ? 1 : 0, 7);
            Check.due("20: as given, " + object, desk.agent.told(object, object == 3 ? 1 : 0), 7);
        }
        get("TICKS with ACCESS 2", desk, Ber.number(67, 7), 1, 2, 0);
        get("a GAUGE", desk, Ber.number(66, 7), 1, 3, 0);
        get("TICKS of a column", desk, Ber.number(67, 7), 1, 4, 1, 1);
    }

    /** "Tables have up to 6 COLUMNS and 16 ROWS": each has its own value. */
    private static void sixColumnsSixteenRows() {
        Desk desk = withPub();
        desk.table(1, 3);
        for (int column = 1; column <= 5; column++) {
            desk.agent.column(0, column, 2, 1, 0, 0);
        }
        Check.due("7: the sixth", desk.agent.status(0, 6), 5);
        Check.due("6: a seventh", desk.agent.column(0, 7, 2, 1, 0, 0), -4);
        for (int row = 16; row >= 1; row--) {
            Check.due("8: row " + row, desk.agent.row(0, row, true), 1);
            Check.due("19: so many", desk.agent.rows(0), 17 - row);
            for (int column = 0; column < 5; column++) {
                desk.agent.value(column, row, 100 * column + row);
            }
        }
        Check.due("8: a 17th", desk.agent.row(0, 17, true), -4);
        Check.due("19: sixteen", desk.agent.rows(0), 16);
        for (int row = 1; row <= 16; row++) {
            for (int column = 0; column < 5; column++) {
                Check.due("20: of " + column + ", " + row, desk.agent.told(column, row), 100 * column + row);
            }
            Check.due("20: the STATUS of " + row, desk.agent.told(5, row), 1);
        }
        Check.due("20: of the 17th", desk.agent.told(0, 17), -1);
    }

    /** "the STATUS column, one at most, made as told, tells 1 ACTIVE or 2 WAITING of a row". */
    private static void statusOfARow() {
        Desk desk = withPub();
        desk.table(1, 3);
        Check.due("7: one", desk.agent.status(0, 1), 0);
        Check.due("7: a second one", desk.agent.status(0, 2), -3);
        Check.due("7: the same one", desk.agent.status(0, 1), -3);
        desk.agent.row(0, 5, true);
        get("active", desk, Ber.integer(1), 1, 3, 1, 5);
        desk.ask(Ber.ask(1, Ber.SET, Ber.pair(Ber.name(1, 3, 1, 5), Ber.integer(2))));
        get("waiting", desk, Ber.integer(2), 1, 3, 1, 5);
        desk.ask(Ber.ask(1, Ber.SET, Ber.pair(Ber.name(1, 3, 1, 6), Ber.integer(5))));
        get("made waiting", desk, Ber.integer(2), 1, 3, 1, 6);
        Check.due("20: made waiting", desk.agent.told(0, 6), 2);
    }

    /** "without any it is in". */
    private static void inTheViewWithoutAny() {
        get("no row of a view", Desk.usual(), Ber.integer(0), 1, 3, 6, 1, 2, 0);
        Desk other = Desk.usual();
        other.view(0, false, 1, 3, 6, 1, 3);
        other.view(0, false, 1, 3, 6, 1, 2, 0, 0);
        other.view(0, false, 1, 3, 6, 1, 2, 1);
        get("no row with which it begins", other, Ber.integer(0), 1, 3, 6, 1, 2, 0);
        Desk in = Desk.usual();
        in.view(0, true, 1, 3, 6, 2);
        get("other rows that are IN", in, Ber.integer(0), 1, 3, 6, 1, 2, 0);
    }

    /** "a name is in the view if the longest of these with which it begins is IN": of 8 of them, in any order. */
    private static void longestOfTheView() {
        long[] name = {1, 3, 6, 1, 2, 1, 1, 1, 0};
        for (int begin = 2; begin <= 9; begin++) {
            for (int step : new int[] {1, 3, 5, 7}) {
                Desk desk = withPub();
                desk.scalar(2, 1, 0, 0, 1, 3, 6, 1, 2, 1, 1, 1);
                for (int i = 0; i < 8; i++) {
                    int size = 2 + (i * step) % 8;
                    // the rows that are longer than the name tells are of another name
                    long[] row = Arrays.copyOf(name, size);
                    row[size - 1] += size > begin ? 7 : 0;
                    Check.due("13: row " + i, desk.view(0, size == begin, row), i + 1);
                }
                get("the longest of " + begin + " is IN", desk, Ber.integer(0), name);
            }
        }
        Desk exact = Desk.usual();
        exact.view(0, true, 1, 3, 6, 1, 2);
        exact.view(0, false, 1, 3, 6, 1, 2, 0);
        get("the name itself is OUT", exact, Ber.NO_OBJECT, 1, 3, 6, 1, 2, 0);
        get("its object is IN", exact, Ber.NO_INSTANCE, 1, 3, 6, 1, 2);
        get("what begins with the name itself", exact, Ber.NO_OBJECT, 1, 3, 6, 1, 2, 0, 5);
        Desk sixteen = withPub();
        sixteen.scalar(2, 1, 0, 0, 1, 3, 1, 1, 1, 1, 1, 1, 1, 1, 1, 1, 1, 1, 1);
        sixteen.view(0, false, 1, 3);
        get("a name of 16 is OUT", sixteen, Ber.NO_OBJECT, 1, 3, 1, 1, 1, 1, 1, 1, 1, 1, 1, 1, 1, 1, 1, 0);
        sixteen.view(0, true, 1, 3, 1, 1, 1, 1, 1, 1, 1, 1, 1, 1, 1, 1, 1, 0);
        get("a name of 16 is IN", sixteen, Ber.integer(0), 1, 3, 1, 1, 1, 1, 1, 1, 1, 1, 1, 1, 1, 1, 1, 0);
    }

    /** "(of the same one that told last)": up to 8 times the same. */
    private static void sameOneOfTheView() {
        for (int last = 1; last <= 8; last++) {
            for (int pattern = 0; pattern < 4; pattern++) {
                Desk desk = Desk.usual();
                boolean in = false;
                for (int i = 1; i <= last; i++) {
                    in = (pattern >> (i % 2)) % 2 == 0;
                    Check.due("13: the same, " + i, desk.view(0, in, 1, 3, 6, 1), i);
                }
                get("the same told " + last + " times", desk, in ? Ber.integer(0) : Ber.NO_OBJECT, 1, 3, 6, 1, 2, 0);
            }
        }
        Desk between = Desk.usual();
        between.view(0, true, 1, 3, 6, 1);
        between.view(0, true, 1, 3);
        between.view(0, false, 1, 3, 6, 1);
        between.view(0, true, 1, 3);
        get("another one between and behind", between, Ber.NO_OBJECT, 1, 3, 6, 1, 2, 0);
    }

    /** A COMMUNITY has a VIEW of its own: of 8 communities one is shown the name. */
    private static void viewsOfEachCommunity() {
        Desk desk = new Desk();
        desk.scalar(2, 1, 0, 0, 1, 3);
        for (int i = 0; i < 8; i++) {
            Check.due("12: community " + i, desk.community("c" + i, false), i);
            desk.view(i, i == 5, 1, 3);
        }
        for (int i = 0; i < 8; i++) {
            byte[] row = told(i == 5 ? Ber.integer(0) : Ber.NO_OBJECT, 1, 3, 0);
            Check.due("16: GET by community " + i,
                    desk.ask(Ber.message(1, "c" + i, Ber.GET, new long[] {7, 0, 0}, asked(1, 3, 0))),
                    Ber.message(1, "c" + i, Ber.ANSWER, new long[] {7, 0, 0}, row));
        }
    }

    /** GET of what is not READABLE: "NO INSTANCE if it begins ..., else NO OBJECT; VERSION 0: ERROR 2 at the first such one". */
    private static void getWithoutReadable() {
        long[][] names = {{1, 3, 6, 1, 2, 1}, {1, 3, 6, 1, 2}, {1, 3, 6, 2, 1, 1, 5}, {1, 3, 6, 1, 7, 0}, {1, 3, 6, 1, 8}, {0, 0}};
        byte[][] values = {Ber.NO_INSTANCE, Ber.NO_INSTANCE, Ber.NO_INSTANCE, Ber.NO_OBJECT, Ber.NO_OBJECT, Ber.NO_OBJECT};
        for (int i = 0; i < names.length; i++) {
            get("not readable", Desk.usual(), values[i], names[i]);
            byte[] good = asked(1, 3, 6, 1, 2, 0);
            byte[] bad = asked(names[i]);
            Desk.answered("GET, VERSION 0", Ber.ask(0, Ber.GET, bad), Ber.answer(0, 2, 1, bad));
            Desk.answered("GET, VERSION 0, the first of two", Ber.ask(0, Ber.GET, good, bad, bad),
                    Ber.answer(0, 2, 2, good, bad, bad));
            Desk blind = Desk.usual();
            blind.view(0, false, names[i]);
            get("not in the view", blind, Ber.NO_OBJECT, names[i]);
        }
    }

    /** NEXT: "If there is none: VERSION 1: the name itself, END; VERSION 0: ERROR 2 at the first such one." */
    private static void nextWithoutReadable() {
        byte[] address = told(Ber.address(0, 0, 0, 0), 1, 3, 6, 1, 6, 0);
        next("the last readable instance", Desk.usual(), new long[] {1, 3, 6, 1, 6}, address);
        long[][] beyond = {{1, 3, 6, 1, 6, 0}, {1, 3, 6, 1, 6, 0, 0}, {1, 3, 6, 1, 7}, {1, 3, 6, 2, 1, 1}, {2, 39},
            {2, 39, MOST, MOST, MOST, MOST, MOST, MOST, MOST, MOST, MOST, MOST, MOST, MOST, MOST, MOST}};
        for (long[] name : beyond) {
            byte[] bad = asked(name);
            byte[] good = asked(1, 3, 6, 1, 6);
            next("none", Desk.usual(), name, told(Ber.END, name));
            Desk.answered("NEXT, VERSION 0", Ber.ask(0, Ber.NEXT, bad), Ber.answer(0, 2, 1, bad));
            Desk.answered("NEXT, VERSION 0, the first of two", Ber.ask(0, Ber.NEXT, good, bad, bad),
                    Ber.answer(0, 2, 2, good, bad, bad));
            Desk.answered("NEXT, VERSION 1, each by itself", Ber.ask(1, Ber.NEXT, good, bad, good),
                    Ber.answer(1, 0, 0, address, told(Ber.END, name), address));
        }
        next("no object at all", withPub(), new long[] {0, 0}, told(Ber.END, 0, 0));
        Desk blind = Desk.usual();
        blind.view(0, false, 1, 3);
        next("none in the view", blind, new long[] {0, 0}, told(Ber.END, 0, 0));
    }

    /** Twenty scalars 1.3.0 .. 1.3.19 with their numbers as values. */
    private static Desk ladder() {
        Desk desk = withPub();
        for (int i = 0; i < 20; i++) {
            desk.scalar(2, 1, 0, 0, 1, 3, i);
            desk.agent.value(i, 0, i);
        }
        desk.agent.limit(1000);
        return desk;
    }

    private static byte[] rung(int i) {
        return i < 20 ? told(Ber.integer(i), 1, 3, i, 0) : told(Ber.END, 1, 3, 19, 0);
    }

    private static void many(String what, long s, long t, byte[][] names, byte[]... rows) {
        Check.due("16: MANY, " + what, ladder().ask(Ber.many(s, t, names)), Ber.answer(1, 0, 0, rows));
    }

    /** MANY: "the first s names (0 if it is below 0; all, if more) as NEXT". */
    private static void firstsOfMany() {
        byte[][] names = {asked(1, 3, 0), asked(1, 3, 5), asked(1, 3, 10)};
        for (long s : new long[] {-2147483648L, -2, -1, 0}) {
            many("s of " + s, s, 2, names, rung(0), rung(5), rung(10), rung(1), rung(6), rung(11));
        }
        many("s of 1", 1, 2, names, rung(0), rung(5), rung(10), rung(6), rung(11));
        many("s of 2", 2, 2, names, rung(0), rung(5), rung(10), rung(11));
        for (long s : new long[] {3, 4, 20, 21, 2147483647L}) {
            many("s of " + s, s, 2, names, rung(0), rung(5), rung(10));
            many("s of " + s + " without t", s, 0, names, rung(0), rung(5), rung(10));
            many("s of " + s + " without names", s, 2, new byte[0][]);
        }
    }

    /** MANY: "then t times (0 if below 0) the others, each from the name before". */
    private static void timesOfMany() {
        byte[][] names = {asked(1, 3, 0), asked(1, 3, 15)};
        for (long t : new long[] {-2147483648L, -2, -1, 0}) {
            many("t of " + t, 1, t, names, rung(0));
            many("t of " + t + " without s", 0, t, names);
        }
        many("t of 1", 1, 1, names, rung(0), rung(15));
        many("t of 2", 1, 2, names, rung(0), rung(15), rung(16));
        many("t of 5", 1, 5, names, rung(0), rung(15), rung(16), rung(17), rung(18), rung(19));
        byte[] end = rung(20);
        many("t of 6", 1, 6, names, rung(0), rung(15), rung(16), rung(17), rung(18), rung(19), end);
        for (long t : new long[] {7, 40, 2147483647L}) {
            many("t of " + t, 1, t, names, rung(0), rung(15), rung(16), rung(17), rung(18), rung(19), end);
        }
    }

    /** MANY: "till ... all of one round are END": that round is told, and none behind it. */
    private static void manyTillARoundOfEnds() {
        byte[] end = rung(20);
        byte[] atEnd = asked(1, 3, 19, 0);
        many("a round of one END", 0, 9, new byte[][] {atEnd}, end);
        many("a round of two", 0, 9, new byte[][] {atEnd, atEnd}, end, end);
        many("END in a round of two", 0, 9, new byte[][] {atEnd, asked(1, 3, 18)}, end, rung(18), end, rung(19), end, end);
        many("END behind in a round of two", 0, 9, new byte[][] {asked(1, 3, 19), atEnd}, rung(19), end, end, end);
        many("END in all of the first ones", 2, 9, new byte[][] {atEnd, atEnd, asked(1, 3, 19)}, end, end, rung(19), end);
        many("END in the first one and a round", 1, 9, new byte[][] {atEnd, atEnd}, end, end);
    }

    /** MANY: "till ... 40 rows are told in all". */
    private static void fortyRowsOfMany() {
        byte[] end = rung(20);
        byte[] first = asked(1, 3);
        rowsOfMany("39 rows by t", 0, 39, 1, 0, 39);
        rowsOfMany("40 rows by t", 0, 40, 1, 0, 40);
        rowsOfMany("41 rows by t", 0, 41, 1, 0, 40);
        rowsOfMany("three names, 13 times", 0, 13, 3, 0, 39);
        rowsOfMany("three names, 14 times", 0, 14, 3, 0, 40);
        rowsOfMany("a first one and three, 13 times", 1, 13, 3, 1, 40);
        rowsOfMany("two first ones and three, 13 times", 2, 13, 3, 2, 40);
        rowsOfMany("20 names, once", 0, 1, 20, 0, 20);
        rowsOfMany("20 names, twice", 0, 2, 20, 0, 40);
        rowsOfMany("20 names, three times", 0, 3, 20, 0, 40);
        rowsOfMany("19 first ones, 20 times", 19, 20, 1, 19, 39);
        rowsOfMany("19 first ones, 21 times", 19, 21, 1, 19, 40);
        rowsOfMany("19 first ones, 22 times", 19, 22, 1, 19, 40);
        many("20 first ones", 20, 9, Ber.times(20, first), Ber.times(20, rung(0)));
        many("END for one of two", 0, 9, new byte[][] {asked(1, 3, 19, 0), asked(1, 3, 17)},
                end, rung(17), end, rung(18), end, rung(19), end, end);
    }

    /** Of a tree of 40 scalars, so that no round is one of ENDs: how many rows, and which ones. */
    private static void rowsOfMany(String what, int s, int t, int others, int firsts, int rows) {
        Desk desk = withPub();
        for (int i = 0; i < 40; i++) {
            desk.scalar(2, 1, 0, 0, 1, 3, i);
        }
        desk.agent.limit(1000);
        byte[][] due = new byte[rows][];
        for (int i = 0; i < rows; i++) {
            due[i] = told(Ber.integer(0), 1, 3, i < firsts ? 0 : (i - firsts) / others, 0);
        }
        byte[][] names = Ber.times(firsts + others, asked(1, 3));
        Check.due("16: MANY, " + what, desk.ask(Ber.many(s, t, names)), Ber.answer(1, 0, 0, due));
    }
}
