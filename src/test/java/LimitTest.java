/** Promises 14 and 16: answers up to the LIMIT and over it, and how LENGTHS grow with them. */
public final class LimitTest {
    private static final long[] NAME = {1, 3, 6, 1, 1, 0};

    public static void main(String[] args) {
        getAtTheLimit();
        getVersion0();
        errorBeforeLimit();
        nextAtTheLimit();
        setAtTheLimit();
        forbiddenSet();
        errorTooLong();
        manyAtTheLimit();
        manyFirstsAtTheLimit();
        lengthsOfAnswers();
        Check.finish();
    }

    private static byte[] pair(byte[] value, long... name) {
        return Ber.pair(Ber.name(name), value);
    }

    private static byte[][] times(int n, byte[] pair) {
        byte[][] all = new byte[n][];
        java.util.Arrays.fill(all, pair);
        return all;
    }

    private static Desk withText(int octets, int limit) {
        Desk desk = Desk.usual();
        desk.text(Desk.SCALAR_TEXT, 0, "t".repeat(octets));
        desk.agent.limit(limit);
        return desk;
    }

    private static void counted(String what, Desk desk, int... counts) {
        for (int i = 0; i < counts.length; i++) {
            Check.due("18: " + what + ", count(" + (i + 1) + ")", desk.agent.count(i + 1), counts[i]);
        }
    }

    private static void getAtTheLimit() {
        byte[] question = Ber.ask(1, Ber.GET, times(5, pair(Ber.NULL, NAME)));
        byte[] answer = Ber.answer(1, 0, 0, times(5, pair(Ber.text("t".repeat(30)), NAME)));
        Desk fits = withText(30, answer.length);
        Check.due("16: GET as long as the limit", fits.ask(question), answer);
        counted("GET as long as the limit", fits, 0, 0, 0, 0, 0, 1, 0);
        Desk over = withText(30, answer.length - 1);
        Check.due("16: GET longer than the limit", over.ask(question), Ber.answer(1, 1, 0));
        counted("GET longer than the limit", over, 0, 0, 0, 0, 0, 1, 1);
    }

    private static void getVersion0() {
        byte[][] asked = times(5, pair(Ber.NULL, NAME));
        byte[] question = Ber.ask(0, Ber.GET, asked);
        Desk over = withText(30, 110);
        Check.due("16: GET, version 0, with the question's rows", over.ask(question), Ber.answer(0, 1, 0, asked));
        counted("GET, version 0", over, 0, 0, 0, 0, 0, 1, 1);
        Desk even = withText(30, 100);
        byte[][] eight = times(8, pair(Ber.NULL, NAME));
        Check.due("16: GET, version 0, with too long rows", even.ask(Ber.ask(0, Ber.GET, eight)), (byte[]) null);
        counted("GET, version 0, with too long rows", even, 0, 0, 0, 0, 1, 0, 0);
    }

    private static void errorBeforeLimit() {
        byte[][] asked = times(6, pair(Ber.NULL, NAME));
        asked[5] = pair(Ber.NULL, 1, 3, 9);
        Desk desk = withText(40, 120);
        Check.due("16: ERROR 2 behind what is too long", desk.ask(Ber.ask(0, Ber.GET, asked)), Ber.answer(0, 2, 6, asked));
        asked[5] = pair(Ber.NULL, 2, 3, 9);
        Desk next = withText(40, 120);
        Check.due("16: NEXT, ERROR 2 behind what is too long", next.ask(Ber.ask(0, Ber.NEXT, asked)),
                Ber.answer(0, 2, 6, asked));
    }

    private static void nextAtTheLimit() {
        byte[][] asked = times(4, pair(Ber.NULL, 1, 3));
        byte[] answer = Ber.answer(1, 0, 0, times(4, pair(Ber.text("t".repeat(40)), NAME)));
        Check.due("16: NEXT as long as the limit", withText(40, answer.length).ask(Ber.ask(1, Ber.NEXT, asked)), answer);
        Check.due("16: NEXT longer than the limit", withText(40, answer.length - 1).ask(Ber.ask(1, Ber.NEXT, asked)),
                Ber.answer(1, 1, 0));
        Check.due("16: NEXT, version 0, longer", withText(40, answer.length - 1).ask(Ber.ask(0, Ber.NEXT, asked)),
                Ber.answer(0, 1, 0, asked));
    }

    private static void setAtTheLimit() {
        byte[][] asked = times(7, pair(Ber.text("x".repeat(12)), NAME));
        byte[] answer = Ber.answer(1, 0, 0, asked);
        Desk fits = withText(3, answer.length);
        Check.due("16: SET as long as the limit", fits.ask(Ber.ask(1, Ber.SET, asked)), answer);
        Check.due("20: it is set", fits.agent.told(Desk.SCALAR_TEXT, 0), 12);
        Desk over = withText(3, answer.length - 1);
        Check.due("16: SET longer than the limit", over.ask(Ber.ask(1, Ber.SET, asked)), Ber.answer(1, 1, 0));
        Check.due("20: nothing is set", over.agent.told(Desk.SCALAR_TEXT, 0), 3);
        counted("SET longer than the limit", over, 0, 0, 0, 0, 0, 1, 1);
        Desk zero = withText(3, answer.length - 1);
        Check.due("16: SET, version 0, longer", zero.ask(Ber.ask(0, Ber.SET, asked)), (byte[]) null);
        Check.due("20: nothing is set, version 0", zero.agent.told(Desk.SCALAR_TEXT, 0), 3);
        counted("SET, version 0, longer", zero, 0, 0, 0, 0, 1, 0, 0);
    }

    private static void forbiddenSet() {
        byte[][] asked = times(7, pair(Ber.text("x".repeat(12)), NAME));
        for (int version = 0; version <= 1; version++) {
            Desk desk = withText(3, 100);
            Check.due("16: a forbidden SET that is too long",
                    desk.ask(Ber.message(version, "see", Ber.SET, new long[] {7, 0, 0}, asked)), (byte[]) null);
            counted("a forbidden SET that is too long", desk, 0, 0, 0, 1, 1, 0, 0);
        }
    }

    private static void errorTooLong() {
        byte[][] asked = times(7, pair(Ber.text("x".repeat(13)), NAME));
        int octets = Ber.answer(1, 8, 1, asked).length;
        Desk fits = withText(3, octets);
        Check.due("16: an ERROR as long as the limit", fits.ask(Ber.ask(1, Ber.SET, asked)), Ber.answer(1, 8, 1, asked));
        counted("an ERROR as long as the limit", fits, 0, 0, 0, 0, 0, 1, 1);
        Desk over = withText(3, octets - 1);
        Check.due("16: an ERROR longer than the limit", over.ask(Ber.ask(1, Ber.SET, asked)), (byte[]) null);
        counted("an ERROR longer than the limit", over, 0, 0, 0, 0, 1, 0, 0);
        Check.due("17: there is no answer", over.agent.answer(0), -1);
    }

    private static void manyAtTheLimit() {
        byte[] text = pair(Ber.text("t".repeat(40)), NAME);
        byte[] number = pair(Ber.integer(0), 1, 3, 6, 1, 2, 0);
        byte[] ticks = pair(Ber.number(67, 0), 1, 3, 6, 1, 3, 0);
        byte[] two = Ber.answer(1, 0, 0, text, text, number, number);
        byte[] three = Ber.answer(1, 0, 0, text, text, number, number, ticks);
        byte[] question = Ber.many(0, 3, pair(Ber.NULL, 1, 3), pair(Ber.NULL, 1, 3));
        Check.due("16: MANY as long as the limit", withText(40, three.length).ask(question), three);
        Check.due("16: MANY, a row more is too long", withText(40, three.length - 1).ask(question), two);
        Check.due("16: MANY, just the rows before", withText(40, two.length).ask(question), two);
        Desk desk = withText(40, two.length);
        desk.ask(question);
        counted("MANY at the limit", desk, 0, 0, 0, 0, 0, 1, 0);
    }

    private static void manyFirstsAtTheLimit() {
        byte[] text = pair(Ber.text("t".repeat(40)), NAME);
        byte[] end = pair(Ber.field(130), 2, 3);
        byte[] atFirst = pair(Ber.NULL, 1, 3);
        byte[] atEnd = pair(Ber.NULL, 2, 3);
        byte[] question = Ber.many(3, 5, atFirst, atFirst, atEnd, atEnd);
        byte[] one = Ber.answer(1, 0, 0, text);
        Check.due("16: MANY, a first row that is too long", withText(40, 100).ask(question), one);
        byte[] all = Ber.answer(1, 0, 0, text, text, end, end);
        Check.due("16: MANY, all of them", withText(40, all.length).ask(question), all);
        byte[] fewer = Ber.answer(1, 0, 0, text, text, end);
        Check.due("16: MANY, without the last", withText(40, all.length - 1).ask(question), fewer);
    }

    /** LENGTHS of 126 .. 130 and 254 .. 258 in each of the fields that hold the rows. */
    private static void lengthsOfAnswers() {
        int[] base = {60, 180};
        for (int start : base) {
            for (int octets = start; octets < start + 110; octets++) {
                Desk desk = withText(octets % 41, 1000);
                int whole = octets / 41;
                byte[][] asked = times(whole + 1, pair(Ber.text("q".repeat(40)), 1, 3, 9));
                asked[whole] = pair(Ber.NULL, NAME);
                byte[][] told = times(whole + 1, pair(Ber.NO_OBJECT, 1, 3, 9));
                told[whole] = pair(Ber.text("t".repeat(octets % 41)), NAME);
                Check.due("16: GET with a text of " + octets % 41, desk.feed(Ber.ask(1, Ber.GET, asked)).agent.question(),
                        Ber.answer(1, 0, 0, told).length);
                byte[][] echoed = times(whole + 1, pair(Ber.text("q".repeat(40)), 1, 3, 9));
                echoed[whole] = pair(Ber.text("q".repeat(octets % 41)), 1, 3, 9);
                byte[] answer = Ber.answer(0, 2, 1, echoed);
                Check.due("16: an ERROR with " + octets + " octets of text",
                        Desk.usual().ask(Ber.ask(0, Ber.GET, echoed)), answer);
            }
        }
    }
}
