/**
 * An agent that is asked for things by names in a tree. It is fed octets and numbers, holds objects
 * and tables of rows, and answers questions of tagged octets. The document's promises 1 to 21 say
 * what each call answers.
 */
public final class TreeAgent {
    private static final int INTEGER = 2;
    private static final int TEXT = 4;
    private static final int NOTHING = 5;
    private static final int NAME = 6;
    private static final int ROW = 48;
    private static final int ADDRESS = 64;
    private static final int COUNTER = 65;
    private static final int GAUGE = 66;
    private static final int TICKS = 67;
    private static final int LONG_COUNTER = 70;
    private static final int NO_OBJECT = 128;
    private static final int NO_INSTANCE = 129;
    private static final int END = 130;
    private static final int GET = 160;
    private static final int NEXT = 161;
    private static final int ANSWER = 162;
    private static final int SET = 163;
    private static final int MANY = 165;

    private static final int NO_SUCH = -1;
    private static final int OUTSIDE = -2;
    private static final int NOT_NOW = -3;
    private static final int NO_ROOM = -4;

    private static final int MALFORMED = 1;
    private static final int WRONG_VERSION = 2;
    private static final int UNKNOWN_COMMUNITY = 3;
    private static final int FORBIDDEN_SETS = 4;
    private static final int TOO_LONG_ERRORS = 5;
    private static final int GIVEN = 6;
    private static final int GIVEN_ERRORS = 7;

    private static final int ERROR_TOO_LONG = 1;
    private static final int ERROR_NO_SUCH_NAME = 2;
    private static final int ERROR_BAD_VALUE = 3;
    private static final int ERROR_GENERAL = 5;
    private static final int ERROR_NO_ACCESS = 6;
    private static final int ERROR_WRONG_TAG = 7;
    private static final int ERROR_WRONG_LENGTH = 8;
    private static final int ERROR_WRONG_VALUE = 10;
    private static final int ERROR_NO_CREATION = 11;
    private static final int ERROR_INCONSISTENT = 12;
    private static final int ERROR_NO_ROOM = 13;
    private static final int ERROR_NOT_WRITABLE = 17;
    private static final int ERROR_NO_ROW = 18;

    private static final int ACTIVE = 1;
    private static final int WAITING = 2;
    private static final int MAKE_ACTIVE = 4;
    private static final int MAKE_WAITING = 5;
    private static final int TAKE_AWAY = 6;

    private static final int TAPE_ROOM = 1200;
    private static final int TEXT_ROOM = 40;
    private static final int NAME_ROOM = 16;
    private static final int LEAST_NAME = 2;
    private static final int MOST_FIRST = 2;
    private static final int MOST_SECOND = 39;
    private static final int SECONDS = 40;
    private static final int MOST_OBJECTS = 40;
    private static final int MOST_TABLES = 4;
    private static final int MOST_COLUMNS = 6;
    private static final int MOST_ROWS = 16;
    private static final int MOST_COMMUNITIES = 8;
    private static final int MOST_VIEWS = 8;
    private static final int MOST_ASKED = 20;
    private static final int MOST_TOLD = 40;
    private static final int LEAST_LIMIT = 100;
    private static final int MOST_LIMIT = 1000;
    private static final int FIRST_LIMIT = 484;
    private static final int MOST_INDEX = 2147483647;
    private static final int MOST_NUMBER_OCTETS = 9;
    private static final long MOST_UNSIGNED = 4294967295L;
    private static final long LEAST_INTEGER = -2147483648L;
    private static final long MOST_INTEGER = 2147483647L;
    private static final long MOST_CLOCK = 1L << 62;

    private final Chain tape = new Chain(TAPE_ROOM);
    private final Chain nameAtHand = new Chain(NAME_ROOM);
    private final Tree tree = new Tree();
    private final Community[] communities = new Community[MOST_COMMUNITIES];
    private final Message message = new Message();
    private final Reader reader = new Reader(tape);
    private final Change change = new Change(tree, message);
    private final Reply reply = new Reply();
    private final int[] counts = new int[GIVEN_ERRORS + 1];
    private final Chain found = new Chain(NAME_ROOM);
    private final Value clockTicks = new Value(TICKS, 0);
    private final Value noObject = new Value(NO_OBJECT, 0);
    private final Value noInstance = new Value(NO_INSTANCE, 0);
    private final Value end = new Value(END, 0);
    private int communityCount;
    private int longest = FIRST_LIMIT;
    private long clock;

    public TreeAgent() {
    }

    public int feed(long v, int n) {
        if (n < 0 || n > 8) {
            return OUTSIDE;
        }
        if (n == 0) {
            tape.clear();
            return 0;
        }
        if (tape.size() + n > TAPE_ROOM) {
            return NO_ROOM;
        }
        for (int i = n - 1; i >= 0; i--) {
            tape.add((v >>> (8 * i)) & 255L);
        }
        return tape.size();
    }

    public int number(long v) {
        if (v == -1L) {
            nameAtHand.clear();
            return 0;
        }
        if (v < 0L || v > mostNumberAt(nameAtHand.size())) {
            return OUTSIDE;
        }
        return nameAtHand.add(v) ? nameAtHand.size() : NO_ROOM;
    }

    private static long mostNumberAt(int place) {
        if (place == 0) {
            return MOST_FIRST;
        }
        return place == 1 ? MOST_SECOND : MOST_UNSIGNED;
    }

    public int scalar(int tag, int access, long least, long most) {
        int answer = newScalar(tag, access, least, most);
        nameAtHand.clear();
        return answer;
    }

    private int newScalar(int tag, int access, long least, long most) {
        // one number is left free for the 0 of the instance
        if (!isObjectTag(tag) || !isAccess(access) || least > most || !isNameAtHand(NAME_ROOM - 1)) {
            return OUTSIDE;
        }
        if (tree.isTaken(nameAtHand)) {
            return NOT_NOW;
        }
        if (tree.thingCount() >= MOST_OBJECTS) {
            return NO_ROOM;
        }
        return tree.addThing(new Thing(nameAtHand, tag, access, least, most, null));
    }

    private static boolean isObjectTag(int tag) {
        switch (tag) {
            case INTEGER:
            case TEXT:
            case NAME:
            case ADDRESS:
            case COUNTER:
            case GAUGE:
            case TICKS:
            case LONG_COUNTER:
                return true;
            default:
                return false;
        }
    }

    private static boolean isAccess(int access) {
        return access >= 0 && access <= 2;
    }

    private boolean isNameAtHand(int most) {
        return nameAtHand.size() >= LEAST_NAME && nameAtHand.size() <= most;
    }

    public int table() {
        int answer = newTable();
        nameAtHand.clear();
        return answer;
    }

    private int newTable() {
        // two numbers are left free for the column and the index
        if (!isNameAtHand(NAME_ROOM - 2)) {
            return OUTSIDE;
        }
        if (tree.isTaken(nameAtHand)) {
            return NOT_NOW;
        }
        if (tree.tableCount() >= MOST_TABLES) {
            return NO_ROOM;
        }
        return tree.addTable(new Table(nameAtHand));
    }

    public int column(int table, int last, int tag, int access, long least, long most) {
        Table owner = tree.tableAt(table);
        if (owner == null) {
            return NO_SUCH;
        }
        if (last < 1 || !isObjectTag(tag) || !isAccess(access)) {
            return OUTSIDE;
        }
        int refusal = columnRefusal(owner, last);
        if (refusal != 0) {
            return refusal;
        }
        return newColumn(owner, columnName(owner, last), tag, access, least, most);
    }

    public int status(int table, int last) {
        Table owner = tree.tableAt(table);
        if (owner == null) {
            return NO_SUCH;
        }
        if (last < 1) {
            return OUTSIDE;
        }
        if (owner.statusColumn != null) {
            return NOT_NOW;
        }
        int refusal = columnRefusal(owner, last);
        if (refusal != 0) {
            return refusal;
        }
        int number = newColumn(owner, columnName(owner, last), INTEGER, 2, ACTIVE, TAKE_AWAY);
        owner.statusColumn = tree.thingAt(number);
        return number;
    }

    private int columnRefusal(Table owner, int last) {
        if (owner.hasColumn(last) || owner.rowCount() > 0) {
            return NOT_NOW;
        }
        boolean full = owner.columnCount() >= MOST_COLUMNS || tree.thingCount() >= MOST_OBJECTS;
        return full ? NO_ROOM : 0;
    }

    private Chain columnName(Table owner, int last) {
        found.copy(owner.name);
        found.add(last);
        return found;
    }

    private int newColumn(Table owner, Chain name, int tag, int access, long least, long most) {
        Thing made = new Thing(name, tag, access, least, most, owner);
        owner.addColumn(made);
        return tree.addThing(made);
    }

    public int row(int table, int index, boolean there) {
        Table owner = tree.tableAt(table);
        if (owner == null) {
            return NO_SUCH;
        }
        if (index < 1) {
            return OUTSIDE;
        }
        if ((owner.slotOf(index) >= 0) == there) {
            return 0;
        }
        if (!there) {
            owner.takeAway(index);
            return 1;
        }
        return owner.make(index, ACTIVE) ? 1 : NO_ROOM;
    }

    public int value(int object, int index, long v) {
        Thing thing = tree.thingAt(object);
        if (thing == null || thing.isStatus()) {
            return NO_SUCH;
        }
        Value cell = thing.cellFor(index);
        if (cell == null || cell.isOfParts()) {
            return NO_SUCH;
        }
        if (!isNumberOf(cell.tag, v)) {
            return OUTSIDE;
        }
        cell.number = cell.tag == ADDRESS ? v & MOST_UNSIGNED : v;
        return 1;
    }

    /** Whether a number is one of its tag; of a LONG COUNTER and an ADDRESS every long has its bits. */
    private static boolean isNumberOf(int tag, long v) {
        switch (tag) {
            case INTEGER:
                return v >= LEAST_INTEGER && v <= MOST_INTEGER;
            case COUNTER:
            case GAUGE:
            case TICKS:
                return v >= 0L && v <= MOST_UNSIGNED;
            default:
                return true;
        }
    }

    public int text(int object, int index) {
        int answer = becomeText(object, index);
        tape.clear();
        return answer;
    }

    private int becomeText(int object, int index) {
        Value cell = cellOfTag(object, index, TEXT);
        if (cell == null) {
            return NO_SUCH;
        }
        if (tape.size() > TEXT_ROOM) {
            return OUTSIDE;
        }
        cell.parts.copy(tape);
        return tape.size();
    }

    public int identity(int object, int index) {
        int answer = becomeName(object, index);
        nameAtHand.clear();
        return answer;
    }

    private int becomeName(int object, int index) {
        Value cell = cellOfTag(object, index, NAME);
        if (cell == null) {
            return NO_SUCH;
        }
        if (!isNameAtHand(NAME_ROOM)) {
            return OUTSIDE;
        }
        cell.parts.copy(nameAtHand);
        return nameAtHand.size();
    }

    private Value cellOfTag(int object, int index, int tag) {
        Thing thing = tree.thingAt(object);
        return thing == null || thing.tag != tag ? null : thing.cellFor(index);
    }

    public int community(boolean sets) {
        int answer = newCommunity(sets);
        tape.clear();
        return answer;
    }

    private int newCommunity(boolean sets) {
        if (tape.size() > TEXT_ROOM) {
            return OUTSIDE;
        }
        if (communityNamed(tape) != null) {
            return NOT_NOW;
        }
        if (communityCount < 0 || communityCount >= communities.length) {
            return NO_ROOM;
        }
        communities[communityCount] = new Community(tape, sets);
        communityCount++;
        return communityCount - 1;
    }

    private Community communityNamed(Chain name) {
        for (int i = 0; i < communities.length; i++) {
            Community one = communities[i];
            if (one != null && one.name.isSame(name)) {
                return one;
            }
        }
        return null;
    }

    public int view(int community, boolean in) {
        int answer = newView(community, in);
        nameAtHand.clear();
        return answer;
    }

    private int newView(int community, boolean in) {
        boolean known = community >= 0 && community < communities.length;
        Community owner = known ? communities[community] : null;
        if (owner == null) {
            return NO_SUCH;
        }
        if (!isNameAtHand(NAME_ROOM)) {
            return OUTSIDE;
        }
        return owner.addView(nameAtHand, in) ? owner.viewCount() : NO_ROOM;
    }

    public int limit(int n) {
        if (n < LEAST_LIMIT || n > MOST_LIMIT) {
            return OUTSIDE;
        }
        int before = longest;
        longest = n;
        return before;
    }

    public long tick(long n) {
        if (n < 0L || n > MOST_CLOCK - clock) {
            return OUTSIDE;
        }
        clock += n;
        clockTicks.number = clock & MOST_UNSIGNED;
        return clock;
    }

    public int question() {
        reply.clear();
        int cause = takeMessage();
        tape.clear();
        if (cause != 0) {
            countOne(cause);
            return 0;
        }
        switch (message.kind) {
            case GET:
                tellValues();
                break;
            case NEXT:
                tellNexts();
                break;
            case MANY:
                tellMany();
                break;
            default:
                tellSet();
                break;
        }
        return give();
    }

    /** Reads the TAPE into the message: 0, or why it is dropped. */
    private int takeMessage() {
        int cause = reader.readHead(message);
        if (cause != 0) {
            return cause;
        }
        message.community = communityNamed(message.communityName);
        if (message.community == null) {
            return UNKNOWN_COMMUNITY;
        }
        return reader.readBody(message) ? 0 : MALFORMED;
    }

    private void countOne(int what) {
        if (what >= 0 && what < counts.length) {
            counts[what]++;
        }
    }

    private void tellValues() {
        for (int i = 0; i < message.count; i++) {
            Pair asked = message.pairAt(i);
            if (asked == null) {
                return;
            }
            Value value = valueFor(asked.name);
            if (message.version == 0 && value.isMissing()) {
                reply.fail(ERROR_NO_SUCH_NAME, i + 1);
                return;
            }
            reply.tell(asked.name, value);
        }
    }

    private Value valueFor(Chain name) {
        Thing thing = tree.thingFor(name);
        Community asker = message.community;
        if (thing == null || thing.access == 0 || asker == null || !asker.shows(name)) {
            return noObject;
        }
        int behind = thing.name.size();
        Value cell = name.size() == behind + 1 ? thing.cellFor(name.at(behind)) : null;
        if (cell == null) {
            return noInstance;
        }
        return thing.tellsClock() ? clockTicks : cell;
    }

    private void tellNexts() {
        for (int i = 0; i < message.count; i++) {
            Pair asked = message.pairAt(i);
            if (asked == null) {
                return;
            }
            Value value = nextAfter(asked.name);
            if (message.version == 0 && value.isMissing()) {
                reply.fail(ERROR_NO_SUCH_NAME, i + 1);
                return;
            }
            reply.tell(found, value);
        }
    }

    /** Finds the least READABLE instance above a name: its name is in found; or END, with the name itself. */
    private Value nextAfter(Chain from) {
        for (int i = 0; i < tree.thingCount(); i++) {
            Thing thing = tree.thingInOrder(i);
            Value value = thing == null || thing.access == 0 ? null : nextOf(thing, from);
            if (value != null) {
                return value;
            }
        }
        found.copy(from);
        return end;
    }

    private Value nextOf(Thing thing, Chain from) {
        Community asker = message.community;
        long index = thing.indexAbove(thing.passedBy(from));
        for (int tries = 0; tries < MOST_ROWS && index >= 0L && asker != null; tries++) {
            found.copy(thing.name);
            found.add(index);
            if (asker.shows(found)) {
                return thing.tellsClock() ? clockTicks : thing.cellFor(index);
            }
            index = thing.indexAbove(index);
        }
        return null;
    }

    private void tellMany() {
        int firsts = Math.min(Math.max(message.s, 0), message.count);
        int others = message.count - firsts;
        long wanted = firsts + (long) others * Math.max(message.t, 0);
        int endsInARow = 0;
        for (int i = 0; i < wanted && i < MOST_TOLD; i++) {
            // the same name's row of the round before lies as many rows back as a round has
            Pair before = i < message.count ? message.pairAt(i) : reply.pairAt(i - others);
            if (before == null) {
                return;
            }
            Value value = nextAfter(before.name);
            if (reply.sizeWith(message, found, value) > longest) {
                return;
            }
            reply.tell(found, value);
            endsInARow = value.isMissing() ? endsInARow + 1 : 0;
            boolean roundIsDone = i >= firsts && others > 0 && (i - firsts + 1) % others == 0;
            if (roundIsDone && endsInARow >= others) {
                return;
            }
        }
    }

    private void tellSet() {
        if (message.community == null || message.count == 0) {
            return;
        }
        if (!message.community.maySet) {
            countOne(FORBIDDEN_SETS);
            reply.fail(errorInVersion(ERROR_NO_ACCESS), 1);
            return;
        }
        for (int i = 0; i < message.count; i++) {
            int fault = change.faultAt(i);
            if (fault != 0) {
                reply.fail(errorInVersion(fault), i + 1);
                return;
            }
        }
        reply.tellAsked(message);
    }

    private int errorInVersion(int error) {
        if (message.version != 0) {
            return error;
        }
        switch (error) {
            case ERROR_WRONG_TAG:
            case ERROR_WRONG_LENGTH:
            case ERROR_WRONG_VALUE:
            case ERROR_NO_CREATION:
            case ERROR_INCONSISTENT:
                return ERROR_BAD_VALUE;
            case ERROR_NO_ROOM:
                return ERROR_GENERAL;
            default:
                return ERROR_NO_SUCH_NAME;
        }
    }

    /** Writes the answer and does what it says was set, unless the LIMIT forbids it: its octets. */
    private int give() {
        if (reply.error() == 0 && reply.sizeFor(message) > longest) {
            reply.fail(ERROR_TOO_LONG, 0);
        }
        boolean failed = reply.error() != 0;
        if (failed && (reply.error() != ERROR_TOO_LONG || message.version == 0)) {
            reply.tellAsked(message);
        }
        if (reply.sizeFor(message) > longest) {
            countOne(TOO_LONG_ERRORS);
            return 0;
        }
        if (!failed && message.kind == SET) {
            change.apply();
        }
        reply.write(message);
        countOne(GIVEN);
        if (failed) {
            countOne(GIVEN_ERRORS);
        }
        return reply.octets.size();
    }

    public int answer(int i) {
        return (int) reply.octets.at(i);
    }

    public int count(int what) {
        switch (what) {
            case 0:
                return tree.thingCount();
            case 8:
                return communityCount;
            case 9:
                return tree.tableCount();
            default:
                return what > 0 && what < counts.length ? counts[what] : OUTSIDE;
        }
    }

    public int rows(int table) {
        Table owner = tree.tableAt(table);
        return owner == null ? NO_SUCH : owner.rowCount();
    }

    public long told(int object, int index) {
        Thing thing = tree.thingAt(object);
        Value cell = thing == null ? null : thing.cellFor(index);
        if (cell == null) {
            return NO_SUCH;
        }
        if (cell.isOfParts()) {
            return cell.parts.size();
        }
        return thing.tellsClock() ? clockTicks.number : cell.number;
    }

    public long part(int object, int index, int i) {
        Thing thing = tree.thingAt(object);
        Value cell = thing == null ? null : thing.cellFor(index);
        return cell == null ? NO_SUCH : cell.parts.at(i);
    }

    /** A row of numbers in a room that never grows: a name, or octets. */
    private static final class Chain {
        private final long[] items;
        private int size;

        Chain(int room) {
            items = new long[Math.max(room, 0)];
        }

        int size() {
            return size;
        }

        long at(int i) {
            return i >= 0 && i < size && i < items.length ? items[i] : -1L;
        }

        boolean add(long item) {
            if (size < 0 || size >= items.length) {
                return false;
            }
            items[size] = item;
            size++;
            return true;
        }

        void clear() {
            size = 0;
        }

        void copy(Chain other) {
            // a chain copied onto itself would be cleared before it is read
            if (other == this) {
                return;
            }
            size = 0;
            for (int i = 0; i < other.size; i++) {
                add(other.at(i));
            }
        }

        boolean beginsWith(Chain other) {
            if (size < other.size) {
                return false;
            }
            for (int i = 0; i < other.size; i++) {
                if (at(i) != other.at(i)) {
                    return false;
                }
            }
            return true;
        }

        boolean isSame(Chain other) {
            return size == other.size && beginsWith(other);
        }

        boolean isLess(Chain other) {
            int shared = Math.min(size, other.size);
            for (int i = 0; i < shared; i++) {
                if (at(i) != other.at(i)) {
                    return at(i) < other.at(i);
                }
            }
            return size < other.size;
        }
    }

    /** A tagged value: a number, or the octets of a TEXT, or the numbers of a NAME. */
    private static final class Value {
        private final Chain parts;
        private int tag;
        private long number;

        Value(int tag, int room) {
            this.tag = tag;
            parts = new Chain(room);
        }

        boolean isOfParts() {
            return tag == TEXT || tag == NAME;
        }

        /** Whether it only tells that there is no value. */
        boolean isMissing() {
            return tag == NO_OBJECT || tag == NO_INSTANCE || tag == END;
        }

        void becomeEmpty(int newTag) {
            tag = newTag;
            number = 0L;
            parts.clear();
        }

        void becomeFirst() {
            becomeEmpty(tag);
            if (tag == NAME) {
                parts.add(0L);
                parts.add(0L);
            }
        }

        void copy(Value other) {
            tag = other.tag;
            number = other.number;
            parts.copy(other.parts);
        }
    }

    /** A name and its value, as a question asks or an answer tells it. */
    private static final class Pair {
        private final Chain name = new Chain(NAME_ROOM);
        private Value value;

        Pair(Value value) {
            this.value = value;
        }
    }

    /** An object of the document: a SCALAR, or a COLUMN of a table; with the values of its instances. */
    private static final class Thing {
        private final Chain name = new Chain(NAME_ROOM);
        private final int tag;
        private final int access;
        private final long least;
        private final long most;
        private final Table table;
        private final Value[] cells;

        Thing(Chain name, int tag, int access, long least, long most, Table table) {
            this.name.copy(name);
            this.tag = tag;
            this.access = access;
            this.least = least;
            this.most = most;
            this.table = table;
            cells = new Value[table == null ? 1 : MOST_ROWS];
            int room = tag == TEXT ? TEXT_ROOM : tag == NAME ? NAME_ROOM : 0;
            for (int i = 0; i < cells.length; i++) {
                Value cell = new Value(tag, room);
                cell.becomeFirst();
                cells[i] = cell;
            }
        }

        boolean isStatus() {
            return table != null && table.statusColumn == this;
        }

        boolean tellsClock() {
            return table == null && tag == TICKS && access == 1;
        }

        Value cellAt(int slot) {
            return slot >= 0 && slot < cells.length ? cells[slot] : null;
        }

        Value cellFor(long index) {
            if (table == null) {
                return index == 0L ? cellAt(0) : null;
            }
            return cellAt(table.slotOf(index));
        }

        /** The least index of an instance above another index; -1 if there is none. */
        long indexAbove(long passed) {
            if (table == null) {
                return passed < 0L ? 0L : -1L;
            }
            return table.indexAbove(passed);
        }

        /** Up to which index the instances are not greater than a name; -1 if all of them are greater. */
        long passedBy(Chain from) {
            if (from.beginsWith(name)) {
                return from.at(name.size());
            }
            return from.isLess(name) ? -1L : MOST_UNSIGNED;
        }

        boolean takesLength(Value given) {
            return tag != TEXT || (given.parts.size() >= least && given.parts.size() <= most);
        }

        boolean takesNumber(Value given) {
            if (isStatus() && given.number == 3L) {
                return false;
            }
            boolean bounded = tag == INTEGER || tag == GAUGE || tag == TICKS;
            return !bounded || (given.number >= least && given.number <= most);
        }

        boolean takesIndex(Chain asked) {
            if (asked.size() != name.size() + 1) {
                return false;
            }
            long index = asked.at(name.size());
            return table == null ? index == 0L : index >= 1L && index <= MOST_INDEX;
        }
    }

    /** A table: its columns, and which ROWS are there; a row's values are in its columns, at its slot. */
    private static final class Table {
        private final Chain name = new Chain(NAME_ROOM);
        private final Thing[] columns = new Thing[MOST_COLUMNS];
        private final int[] indexes = new int[MOST_ROWS];
        private Thing statusColumn;
        private int columnCount;
        private int rowCount;

        Table(Chain name) {
            this.name.copy(name);
        }

        int columnCount() {
            return columnCount;
        }

        int rowCount() {
            return rowCount;
        }

        boolean hasColumn(int last) {
            for (int i = 0; i < columns.length; i++) {
                Thing column = columns[i];
                if (column != null && column.name.at(name.size()) == last) {
                    return true;
                }
            }
            return false;
        }

        void addColumn(Thing column) {
            if (columnCount >= 0 && columnCount < columns.length) {
                columns[columnCount] = column;
                columnCount++;
            }
        }

        int slotOf(long index) {
            // 0 marks a free slot, and is no index
            return index < 1L ? -1 : slotHolding(index);
        }

        private int slotHolding(long index) {
            for (int i = 0; i < indexes.length; i++) {
                if (indexes[i] == index) {
                    return i;
                }
            }
            return -1;
        }

        boolean make(int index, int status) {
            int slot = slotHolding(0L);
            if (slot < 0 || slot >= indexes.length) {
                return false;
            }
            indexes[slot] = index;
            rowCount++;
            for (int i = 0; i < columns.length; i++) {
                Thing column = columns[i];
                Value cell = column == null ? null : column.cellAt(slot);
                if (cell != null) {
                    cell.becomeFirst();
                    cell.number = column == statusColumn ? status : 0L;
                }
            }
            return true;
        }

        void takeAway(long index) {
            int slot = slotOf(index);
            if (slot >= 0 && slot < indexes.length) {
                indexes[slot] = 0;
                rowCount--;
            }
        }

        long indexAbove(long passed) {
            long least = -1L;
            for (int i = 0; i < indexes.length; i++) {
                long index = indexes[i];
                if (index >= 1L && index > passed && (least < 0L || index < least)) {
                    least = index;
                }
            }
            return least;
        }
    }

    /** All objects and tables, by their numbers, and the objects in the order of their names. */
    private static final class Tree {
        private final Thing[] things = new Thing[MOST_OBJECTS];
        private final Thing[] inOrder = new Thing[MOST_OBJECTS];
        private final Table[] tables = new Table[MOST_TABLES];
        private int thingCount;
        private int tableCount;

        int thingCount() {
            return thingCount;
        }

        int tableCount() {
            return tableCount;
        }

        Thing thingAt(int i) {
            return i >= 0 && i < things.length ? things[i] : null;
        }

        Thing thingInOrder(int i) {
            return i >= 0 && i < inOrder.length ? inOrder[i] : null;
        }

        Table tableAt(int i) {
            return i >= 0 && i < tables.length ? tables[i] : null;
        }

        boolean isTaken(Chain name) {
            for (int i = 0; i < thingCount; i++) {
                Thing thing = thingAt(i);
                if (thing != null && (name.beginsWith(thing.name) || thing.name.beginsWith(name))) {
                    return true;
                }
            }
            for (int i = 0; i < tableCount; i++) {
                Table table = tableAt(i);
                if (table != null && (name.beginsWith(table.name) || table.name.beginsWith(name))) {
                    return true;
                }
            }
            return false;
        }

        int addThing(Thing added) {
            if (thingCount < 0 || thingCount >= things.length) {
                return NO_ROOM;
            }
            things[thingCount] = added;
            thingCount++;
            putInOrder(added);
            return thingCount - 1;
        }

        private void putInOrder(Thing added) {
            Thing carried = added;
            for (int i = 0; i < thingCount && i < inOrder.length; i++) {
                Thing here = inOrder[i];
                if (here == null || carried.name.isLess(here.name)) {
                    inOrder[i] = carried;
                    carried = here;
                }
                if (carried == null) {
                    return;
                }
            }
        }

        int addTable(Table added) {
            if (tableCount < 0 || tableCount >= tables.length) {
                return NO_ROOM;
            }
            tables[tableCount] = added;
            tableCount++;
            return tableCount - 1;
        }

        /** The object with whose name a name begins; no object's name begins with another one's, so there is one at most. */
        Thing thingFor(Chain name) {
            for (int i = 0; i < thingCount; i++) {
                Thing thing = thingAt(i);
                if (thing != null && name.beginsWith(thing.name)) {
                    return thing;
                }
            }
            return null;
        }
    }

    /** A COMMUNITY: its name, whether it may SET, and its VIEW. */
    private static final class Community {
        private final Chain name = new Chain(TEXT_ROOM);
        private final boolean maySet;
        private final Chain[] views = new Chain[MOST_VIEWS];
        private final boolean[] isIn = new boolean[MOST_VIEWS];
        private int viewCount;

        Community(Chain name, boolean maySet) {
            this.name.copy(name);
            this.maySet = maySet;
        }

        int viewCount() {
            return viewCount;
        }

        boolean addView(Chain begin, boolean in) {
            if (viewCount < 0 || viewCount >= views.length || viewCount >= isIn.length) {
                return false;
            }
            Chain kept = new Chain(NAME_ROOM);
            kept.copy(begin);
            views[viewCount] = kept;
            isIn[viewCount] = in;
            viewCount++;
            return true;
        }

        boolean shows(Chain asked) {
            boolean in = true;
            int longest = 0;
            for (int i = 0; i < viewCount && i < views.length && i < isIn.length; i++) {
                Chain begin = views[i];
                // of two as long that fit, both are the same one: the later counts
                if (begin != null && begin.size() >= longest && asked.beginsWith(begin)) {
                    longest = begin.size();
                    in = isIn[i];
                }
            }
            return in;
        }
    }

    /** A question as it was read. */
    private static final class Message {
        private final Chain communityName = new Chain(TEXT_ROOM);
        private final Pair[] pairs = new Pair[MOST_ASKED];
        private Community community;
        private int version;
        private int kind;
        private int id;
        private int s;
        private int t;
        private int count;

        Message() {
            for (int i = 0; i < pairs.length; i++) {
                pairs[i] = new Pair(new Value(NOTHING, TEXT_ROOM));
            }
        }

        Pair pairAt(int i) {
            return i >= 0 && i < pairs.length ? pairs[i] : null;
        }
    }

    /** Reads a question from the TAPE, strictly: a method that answers false or -1 has met what is not as told. */
    private static final class Reader {
        private final Chain tape;
        private final Value integer = new Value(INTEGER, 0);
        private int at;

        Reader(Chain tape) {
            this.tape = tape;
        }

        /** Reads up to the COMMUNITY's name: 0, or why the message is dropped. */
        int readHead(Message into) {
            at = 0;
            if (!enterLast(ROW) || !readInteger()) {
                return MALFORMED;
            }
            if (integer.number != 0L && integer.number != 1L) {
                return WRONG_VERSION;
            }
            into.version = (int) integer.number;
            int textEnd = enter(TEXT, tape.size());
            return textEnd >= 0 && takeText(into.communityName, textEnd) ? 0 : MALFORMED;
        }

        boolean readBody(Message into) {
            into.kind = (int) tape.at(at);
            into.count = 0;
            if (!isKind(into.kind, into.version) || !enterLast(into.kind) || !readInteger()) {
                return false;
            }
            into.id = (int) integer.number;
            if (!readInteger()) {
                return false;
            }
            into.s = (int) integer.number;
            if (!readInteger()) {
                return false;
            }
            into.t = (int) integer.number;
            if (!enterLast(ROW)) {
                return false;
            }
            for (int i = 0; i < MOST_ASKED && at < tape.size(); i++) {
                Pair pair = into.pairAt(i);
                if (pair == null || !readPair(pair)) {
                    return false;
                }
                into.count++;
            }
            return at == tape.size();
        }

        private static boolean isKind(int tag, int version) {
            return tag == GET || tag == NEXT || tag == SET || (tag == MANY && version == 1);
        }

        private boolean readPair(Pair into) {
            int pairEnd = enter(ROW, tape.size());
            int nameEnd = pairEnd < 0 ? -1 : enter(NAME, pairEnd);
            if (nameEnd < 0 || !takeName(into.name, nameEnd)) {
                return false;
            }
            return readValue(into.value, pairEnd) && at == pairEnd;
        }

        private boolean readValue(Value into, int pairEnd) {
            int tag = (int) tape.at(at);
            int valueEnd = enter(tag, pairEnd);
            if (valueEnd < 0) {
                return false;
            }
            into.becomeEmpty(tag);
            switch (tag) {
                case TEXT:
                    return takeText(into.parts, valueEnd);
                case NOTHING:
                    return valueEnd == at;
                case NAME:
                    return takeName(into.parts, valueEnd);
                case ADDRESS:
                    return takeAddress(into, valueEnd);
                default:
                    // of the tags that an object may have, those left are numbers
                    return isObjectTag(tag) && takeNumber(tag, valueEnd, into);
            }
        }

        private boolean readInteger() {
            int integerEnd = enter(INTEGER, tape.size());
            return integerEnd >= 0 && takeNumber(INTEGER, integerEnd, integer);
        }

        /** Enters a field that has to go to the end of the TAPE. */
        private boolean enterLast(int tag) {
            return enter(tag, tape.size()) == tape.size();
        }

        /** Goes behind a field's TAG and LENGTH: where it ends; -1 if it is another one, or ends behind what it is in. */
        private int enter(int tag, int outerEnd) {
            if (at >= outerEnd || tape.at(at) != tag) {
                return -1;
            }
            at++;
            long length = readLength(outerEnd);
            return length < 0L || length > outerEnd - at ? -1 : at + (int) length;
        }

        private long readLength(int outerEnd) {
            if (at >= outerEnd) {
                return -1L;
            }
            long first = tape.at(at);
            at++;
            if (first < 128L) {
                return first;
            }
            if (first < 129L || first > 132L || first - 128L > outerEnd - at) {
                return -1L;
            }
            long length = 0L;
            for (int left = (int) first - 128; left > 0; left--) {
                length = (length << 8) | tape.at(at);
                at++;
            }
            return length;
        }

        private boolean takeNumber(int tag, int fieldEnd, Value into) {
            int octets = fieldEnd - at;
            if (octets < 1 || octets > MOST_NUMBER_OCTETS) {
                return false;
            }
            long first = tape.at(at);
            long sign = first >= 128L ? -1L : 0L;
            long number = sign;
            while (at < fieldEnd) {
                number = (number << 8) | tape.at(at);
                at++;
            }
            into.number = number;
            // the first of nine octets has left the long: it must have told nothing but the sign
            if (octets == MOST_NUMBER_OCTETS && first != (sign & 255L)) {
                return false;
            }
            if (tag == LONG_COUNTER) {
                return sign == 0L;
            }
            return (number < 0L) == (sign < 0L) && isNumberOf(tag, number);
        }

        private boolean takeAddress(Value into, int fieldEnd) {
            if (fieldEnd - at != 4) {
                return false;
            }
            while (at < fieldEnd) {
                into.number = (into.number << 8) | tape.at(at);
                at++;
            }
            return true;
        }

        private boolean takeText(Chain into, int fieldEnd) {
            into.clear();
            if (fieldEnd - at > TEXT_ROOM) {
                return false;
            }
            while (at < fieldEnd) {
                into.add(tape.at(at));
                at++;
            }
            return true;
        }

        private boolean takeName(Chain into, int fieldEnd) {
            into.clear();
            long gathered = 0L;
            boolean begun = false;
            while (at < fieldEnd) {
                long octet = tape.at(at);
                at++;
                gathered = (gathered << 7) | (octet & 127L);
                if ((!begun && octet == 128L) || gathered > MOST_UNSIGNED) {
                    return false;
                }
                begun = octet >= 128L;
                if (!begun && !addToName(into, gathered)) {
                    return false;
                }
                gathered = begun ? gathered : 0L;
            }
            return !begun && into.size() >= LEAST_NAME;
        }

        private static boolean addToName(Chain into, long gathered) {
            if (into.size() > 0) {
                // a value's chain has room for a text, which is more than a name may have
                return into.size() < NAME_ROOM && into.add(gathered);
            }
            if (gathered >= SECONDS * (MOST_FIRST + 1)) {
                return false;
            }
            return into.add(gathered / SECONDS) && into.add(gathered % SECONDS);
        }
    }

    /** What a SET would do: whether each row of the message is right, and the doing. */
    private static final class Change {
        private final Tree tree;
        private final Message message;

        Change(Tree tree, Message message) {
            this.tree = tree;
            this.message = message;
        }

        /** The ERROR of a row of the message, by VERSION 1; 0 if it is right. */
        int faultAt(int place) {
            Pair asked = message.pairAt(place);
            if (asked == null || message.community == null || !message.community.shows(asked.name)) {
                return ERROR_NO_ACCESS;
            }
            Thing thing = tree.thingFor(asked.name);
            if (thing == null || thing.access != 2) {
                return ERROR_NOT_WRITABLE;
            }
            if (asked.value.tag != thing.tag) {
                return ERROR_WRONG_TAG;
            }
            if (!thing.takesLength(asked.value)) {
                return ERROR_WRONG_LENGTH;
            }
            if (!thing.takesNumber(asked.value)) {
                return ERROR_WRONG_VALUE;
            }
            if (!thing.takesIndex(asked.name)) {
                return ERROR_NO_CREATION;
            }
            if (thing.table == null) {
                return 0;
            }
            long index = asked.name.at(thing.name.size());
            if (thing.isStatus()) {
                return statusFault(thing.table, index, asked.value.number, place);
            }
            boolean there = thing.table.slotOf(index) >= 0;
            return there || isMade(thing.table, index, message.count) ? 0 : ERROR_NO_ROW;
        }

        private int statusFault(Table table, long index, long wanted, int place) {
            boolean there = table.slotOf(index) >= 0;
            if (wanted == ACTIVE || wanted == WAITING) {
                return there ? 0 : ERROR_INCONSISTENT;
            }
            if (wanted == TAKE_AWAY) {
                return 0;
            }
            if (there || isMade(table, index, place)) {
                return ERROR_INCONSISTENT;
            }
            return table.rowCount() + madeBefore(table, place) >= MOST_ROWS ? ERROR_NO_ROOM : 0;
        }

        /** Whether one of the first rows of the message makes a ROW. */
        private boolean isMade(Table table, long index, int firsts) {
            for (int i = 0; i < firsts; i++) {
                if (indexMade(message.pairAt(i), table) == index) {
                    return true;
                }
            }
            return false;
        }

        private int madeBefore(Table table, int place) {
            int made = 0;
            for (int i = 0; i < place; i++) {
                made += indexMade(message.pairAt(i), table) >= 0L ? 1 : 0;
            }
            return made;
        }

        /** The index of the ROW of a table that a row of the message makes; -1 if it makes none. */
        private static long indexMade(Pair asked, Table table) {
            Thing status = table.statusColumn;
            if (asked == null || status == null || !status.takesIndex(asked.name)) {
                return -1L;
            }
            if (asked.value.tag != INTEGER || !asked.name.beginsWith(status.name)) {
                return -1L;
            }
            boolean makes = asked.value.number == MAKE_ACTIVE || asked.value.number == MAKE_WAITING;
            return makes ? asked.name.at(status.name.size()) : -1L;
        }

        /** Does what the rows of the message ask; all of them have been found right. */
        void apply() {
            for (int i = 0; i < message.count; i++) {
                makeRow(message.pairAt(i));
            }
            for (int i = 0; i < message.count; i++) {
                setOne(message.pairAt(i));
            }
        }

        private void makeRow(Pair asked) {
            Thing thing = asked == null ? null : tree.thingFor(asked.name);
            if (thing == null || !thing.isStatus()) {
                return;
            }
            long index = indexMade(asked, thing.table);
            if (index >= 1L) {
                thing.table.make((int) index, asked.value.number == MAKE_ACTIVE ? ACTIVE : WAITING);
            }
        }

        private void setOne(Pair asked) {
            Thing thing = asked == null ? null : tree.thingFor(asked.name);
            Value cell = thing == null ? null : thing.cellFor(asked.name.at(thing.name.size()));
            if (cell == null) {
                return;
            }
            if (!thing.isStatus() || asked.value.number == ACTIVE || asked.value.number == WAITING) {
                cell.copy(asked.value);
            } else if (asked.value.number == TAKE_AWAY) {
                thing.table.takeAway(asked.name.at(thing.name.size()));
            }
        }
    }

    /** The answer as it is gathered, and its octets: each field is written in the shortest way. */
    private static final class Reply {
        private final Chain octets = new Chain(MOST_LIMIT);
        private final Pair[] pairs = new Pair[MOST_TOLD];
        private int count;
        private int pairsSize;
        private int error;
        private int errorIndex;

        Reply() {
            Value none = new Value(NOTHING, 0);
            for (int i = 0; i < pairs.length; i++) {
                pairs[i] = new Pair(none);
            }
        }

        int error() {
            return error;
        }

        Pair pairAt(int i) {
            return i >= 0 && i < count && i < pairs.length ? pairs[i] : null;
        }

        void clear() {
            octets.clear();
            fail(0, 0);
        }

        /** Forgets what was told, for an ERROR. */
        void fail(int newError, int index) {
            count = 0;
            pairsSize = 0;
            error = newError;
            errorIndex = index;
        }

        void tell(Chain name, Value value) {
            Pair next = count >= 0 && count < pairs.length ? pairs[count] : null;
            if (next != null) {
                next.name.copy(name);
                next.value = value;
                count++;
                pairsSize += fieldSize(pairContent(name, value));
            }
        }

        void tellAsked(Message message) {
            for (int i = 0; i < message.count; i++) {
                Pair asked = message.pairAt(i);
                if (asked != null) {
                    tell(asked.name, asked.value);
                }
            }
        }

        int sizeFor(Message message) {
            return fieldSize(outerContent(message, pairsSize));
        }

        int sizeWith(Message message, Chain name, Value value) {
            return fieldSize(outerContent(message, pairsSize + fieldSize(pairContent(name, value))));
        }

        private int outerContent(Message message, int rowsSize) {
            int head = integerSize(message.version) + fieldSize(message.communityName.size());
            return head + fieldSize(innerContent(message, rowsSize));
        }

        private int innerContent(Message message, int rowsSize) {
            int head = integerSize(message.id) + integerSize(error) + integerSize(errorIndex);
            return head + fieldSize(rowsSize);
        }

        private static int integerSize(int number) {
            return fieldSize(numberContent(number));
        }

        private static int fieldSize(int content) {
            int length = content < 128 ? 1 : content < 256 ? 2 : 3;
            return 1 + length + content;
        }

        private static int pairContent(Chain name, Value value) {
            return fieldSize(nameContent(name)) + fieldSize(valueContent(value));
        }

        private static int valueContent(Value value) {
            switch (value.tag) {
                case TEXT:
                    return value.parts.size();
                case NAME:
                    return nameContent(value.parts);
                case ADDRESS:
                    return 4;
                case INTEGER:
                case COUNTER:
                case GAUGE:
                case TICKS:
                    return numberContent(value.number);
                case LONG_COUNTER:
                    // its highest bit is no sign, so an octet of 0 has to stand before it
                    return value.number < 0L ? MOST_NUMBER_OCTETS : numberContent(value.number);
                default:
                    return 0;
            }
        }

        private static int numberContent(long number) {
            for (int size = 1; size < 8; size++) {
                long rest = number >> (8 * size - 1);
                if (rest == 0L || rest == -1L) {
                    return size;
                }
            }
            return 8;
        }

        private static int nameContent(Chain name) {
            // the first two numbers share an octet
            int size = 1;
            for (int i = 2; i < name.size(); i++) {
                size += sevens(name.at(i));
            }
            return size;
        }

        /** How many octets of 7 bits a number of a name needs; five hold every one. */
        private static int sevens(long number) {
            int size = 1;
            while (size < 5 && (number >>> (7 * size)) != 0L) {
                size++;
            }
            return size;
        }

        void write(Message message) {
            octets.clear();
            putHead(ROW, outerContent(message, pairsSize));
            putInteger(message.version);
            putHead(TEXT, message.communityName.size());
            putParts(message.communityName);
            putHead(ANSWER, innerContent(message, pairsSize));
            putInteger(message.id);
            putInteger(error);
            putInteger(errorIndex);
            putHead(ROW, pairsSize);
            for (int i = 0; i < count; i++) {
                Pair pair = pairAt(i);
                if (pair != null) {
                    putPair(pair);
                }
            }
        }

        private void putPair(Pair pair) {
            putHead(ROW, pairContent(pair.name, pair.value));
            putHead(NAME, nameContent(pair.name));
            putName(pair.name);
            int content = valueContent(pair.value);
            putHead(pair.value.tag, content);
            if (pair.value.tag == NAME) {
                putName(pair.value.parts);
            } else if (pair.value.tag == TEXT) {
                putParts(pair.value.parts);
            } else {
                putNumber(pair.value.number, content);
            }
        }

        private void putHead(int tag, int content) {
            octets.add(tag);
            if (content >= 128) {
                octets.add(content < 256 ? 129L : 130L);
            }
            if (content >= 256) {
                octets.add((content >>> 8) & 255L);
            }
            octets.add(content & 255L);
        }

        private void putInteger(int number) {
            int content = numberContent(number);
            putHead(INTEGER, content);
            putNumber(number, content);
        }

        private void putNumber(long number, int content) {
            for (int i = content - 1; i >= 0; i--) {
                // the ninth octet is only ever the 0 before a LONG COUNTER
                octets.add(i >= 8 ? 0L : (number >>> (8 * i)) & 255L);
            }
        }

        private void putParts(Chain text) {
            for (int i = 0; i < text.size(); i++) {
                octets.add(text.at(i));
            }
        }

        private void putName(Chain name) {
            octets.add(SECONDS * name.at(0) + name.at(1));
            for (int i = 2; i < name.size(); i++) {
                long number = name.at(i);
                for (int left = sevens(number) - 1; left >= 0; left--) {
                    octets.add(((number >>> (7 * left)) & 127L) | (left > 0 ? 128L : 0L));
                }
            }
        }
    }
}
