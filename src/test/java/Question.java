import java.util.function.UnaryOperator;

/** A GET of one row to the usual tree, made field by field, so that a test can change the field in one place. */
final class Question {
    static final int VERSION = 0;
    static final int COMMUNITY = 1;
    static final int ID = 2;
    static final int S = 3;
    static final int T = 4;
    static final int NAME = 5;
    static final int VALUE = 6;
    static final int PAIR = 7;
    static final int ROWS = 8;
    static final int ASKED = 9;
    static final int OUTER = 10;
    static final int PLACES = 11;

    private static final String[] NAMES = {"the VERSION", "the COMMUNITY", "the ID", "s", "t", "the NAME", "the value",
        "the row", "the ROW of rows", "the field of the question", "the outer ROW"};

    private final int place;
    private final UnaryOperator<byte[]> change;

    private Question(int place, UnaryOperator<byte[]> change) {
        this.place = place;
        this.change = change;
    }

    static String placeName(int place) {
        return NAMES[place];
    }

    static byte[] unchanged() {
        return changed(-1, field -> field);
    }

    /** What is due for the unchanged one. */
    static byte[] answer() {
        return Ber.answer(1, 0, 0, Ber.pair(Ber.name(1, 3, 6, 1, 2, 0), Ber.integer(0)));
    }

    /** The fields around the changed one have the LENGTHS that fit it. */
    static byte[] changed(int place, UnaryOperator<byte[]> change) {
        return new Question(place, change).octets();
    }

    static byte[] with(int place, byte[] field) {
        return changed(place, was -> field);
    }

    private byte[] octets() {
        byte[] row = at(PAIR, Ber.field(48, at(NAME, Ber.name(1, 3, 6, 1, 2, 0)), at(VALUE, Ber.NULL)));
        byte[] rows = at(ROWS, Ber.field(48, row));
        byte[] numbers = Ber.join(at(ID, Ber.integer(7)), at(S, Ber.integer(0)), at(T, Ber.integer(0)));
        byte[] asked = at(ASKED, Ber.field(160, numbers, rows));
        return at(OUTER, Ber.field(48, at(VERSION, Ber.integer(1)), at(COMMUNITY, Ber.text("pub")), asked));
    }

    private byte[] at(int here, byte[] field) {
        return here == place ? change.apply(field) : field;
    }

    /** What a field of less than 128 octets has behind its LENGTH. */
    static byte[] content(byte[] field) {
        return java.util.Arrays.copyOfRange(field, 2, field.length);
    }

    static byte[] withTag(byte[] field, int tag) {
        return Ber.join(Ber.octets(tag), java.util.Arrays.copyOfRange(field, 1, field.length));
    }

    /** The same content behind a LENGTH of these octets. */
    static byte[] withLength(byte[] field, int... length) {
        return Ber.join(Ber.octets(field[0]), Ber.octets(length), content(field));
    }
}
