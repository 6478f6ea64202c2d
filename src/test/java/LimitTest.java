/** Promises 14 and 16: answers up to the LIMIT and over it, and how LENGTHS grow with them. */
public final class LimitTest {
    private static final long[] NAME = {1, 3, 6, 1, 1, 0};

    public static void main(String[] args) {
        getAtTheLimit();
        getVersion0();
        errorBeforeLimit();
        nextAtTheLimit();
        setAtTheLimit();
        forbiddenSet();
        errorTooLong();
        manyAtTheLimit();
        manyFirstsAtTheLimit();
        lengthsOfAnswers();
        asLongAsEachLimit();
        errorsAsLongAsEachLimit();
        manyAsLongAsEachLimit();
        limitOfAnswersToCome();
        Check.finish();
    }

    private static byte[] pair(byte[] value, long... name) {
        return Ber.pair(Ber.name(name), value);
    }

    private static Desk withText(int octets, int limit) {
        Desk desk = Desk.usual();
        desk.text(Desk.SCALAR_TEXT, 0, "t".repeat(octets));
        desk.agent.limit(limit);
        return desk;
    }

    private static void counted(String what, Desk desk, int... counts) {
        for (int i = 0; i < counts.length; i++) {
            Check.due("18: " + what + ", count(" + (i + 1) + ")", desk.agent.count(i + 1), counts[i]);
        }
    }

    private static void getAtTheLimit() {
        byte[] question = Ber.ask(1, Ber.GET, Ber.times(5, pair(Ber.NULL, NAME)));
        byte[] answer = Ber.answer(1, 0, 0, Ber.times(5, pair(Ber.text("t".repeat(30)), NAME)));
        Desk fits = withText(30, answer.length);
        Check.due("16: GET as long as the limit", fits.ask(question), answer);
        counted("GET as long as the limit", fits, 0, 0, 0, 0, 0, 1, 0);
        Desk over = withText(30, answer.length - 1);
        Check.due("16: GET longer than the limit", over.ask(question), Ber.answer(1, 1, 0));
        counted("GET longer than the limit", over, 0, 0, 0, 0, 0, 1, 1);
    }

    private static void getVersion0() {
        byte[][] asked = Ber.times(5, pair(Ber.NULL, NAME));
        byte[] question = Ber.ask(0, Ber.GET, asked);
        Desk over = withText(30, 110);
        Check.due("16: GET, version 0, with the question's rows", over.ask(question), Ber.answer(0, 1, 0, asked));
        counted("GET, version 0", over, 0, 0, 0, 0, 0, 1, 1);
        Desk even = withText(30, 100);
        byte[][] eight = Ber.times(8, pair(Ber.NULL, NAME));
        Check.due("16: GET, version 0, with too long rows", even.ask(Ber.ask(0, Ber.GET, eight)), (byte[]) null);
        counted("GET, version 0, with too long rows", even, 0, 0, 0, 0, 1, 0, 0);
    }

    private static void errorBeforeLimit() {
        byte[][] asked = Ber.times(6, pair(Ber.NULL, NAME));
        asked[5] = pair(Ber.NULL, 1, 3, 9);
        Desk desk = withText(40, 120);
        Check.due("16: ERROR 2 behind what is too long", desk.ask(Ber.ask(0, Ber.GET, asked)), Ber.answer(0, 2, 6, asked));
        asked[5] = pair(Ber.NULL, 2, 3, 9);
        Desk next = withText(40, 120);
        Check.due("16: NEXT, ERROR 2 behind what is too long", next.ask(Ber.ask(0, Ber.NEXT, asked)),
                Ber.answer(0, 2, 6, asked));
    }

    private static void nextAtTheLimit() {
        byte[][] asked = Ber.times(4, pair(Ber.NULL, 1, 3));
        byte[] answer = Ber.answer(1, 0, 0, Ber.times(4, pair(Ber.text("t".repeat(40)), NAME)));
        Check.due("16: NEXT as long as the limit", withText(40, answer.length).ask(Ber.ask(1, Ber.NEXT, asked)), answer);
        Check.due("16: NEXT longer than the limit", withText(40, answer.length - 1).ask(Ber.ask(1, Ber.NEXT, asked)),
                Ber.answer(1, 1, 0));
        Check.due("16: NEXT, version 0, longer", withText(40, answer.length - 1).ask(Ber.ask(0, Ber.NEXT, asked)),
                Ber.answer(0, 1, 0, asked));
    }

    private static void setAtTheLimit() {
        byte[][] asked = Ber.times(7, pair(Ber.text("x".repeat(12)), NAME));
        byte[] answer = Ber.answer(1, 0, 0, asked);
        Desk fits = withText(3, answer.length);
        Check.due("16: SET as long as the limit", fits.ask(Ber.ask(1, Ber.SET, asked)), answer);
        Check.due("20: it is set", fits.agent.told(Desk.SCALAR_TEXT, 0), 12);
        Desk over = withText(3, answer.length - 1);
        Check.due("16: SET longer than the limit", over.ask(Ber.ask(1, Ber.SET, asked)), Ber.answer(1, 1, 0));
        Check.due("20: nothing is set", over.agent.told(Desk.SCALAR_TEXT, 0), 3);
        counted("SET longer than the limit", over, 0, 0, 0, 0, 0, 1, 1);
        Desk zero = withText(3, answer.length - 1);
        Check.due("16: SET, version 0, longer", zero.ask(Ber.ask(0, Ber.SET, asked)), (byte[]) null);
        Check.due("20: nothing is set, version 0", zero.agent.told(Desk.SCALAR_TEXT, 0), 3);
        counted("SET, version 0, longer", zero, 0, 0, 0, 0, 1, 0, 0);
    }

    private static void forbiddenSet() {
        byte[][] asked = Ber.times(7, pair(Ber.text("x".repeat(12)), NAME));
        for (int version = 0; version <= 1; version++) {
            Desk desk = withText(3, 100);
            Check.due("16: a forbidden SET that is too long",
                    desk.ask(Ber.message(version, "see", Ber.SET, new long[] {7, 0, 0}, asked)), (byte[]) null);
            counted("a forbidden SET that is too long", desk, 0, 0, 0, 1, 1, 0, 0);
        }
    }

    private static void errorTooLong() {
        byte[][] asked = Ber.times(7, pair(Ber.text("x".repeat(13)), NAME));
        int octets = Ber.answer(1, 8, 1, asked).length;
        Desk fits = withText(3, octets);
        Check.due("16: an ERROR as long as the limit", fits.ask(Ber.ask(1, Ber.SET, asked)), Ber.answer(1, 8, 1, asked));
        counted("an ERROR as long as the limit", fits, 0, 0, 0, 0, 0, 1, 1);
        Desk over = withText(3, octets - 1);
        Check.due("16: an ERROR longer than the limit", over.ask(Ber.ask(1, Ber.SET, asked)), (byte[]) null);
        counted("an ERROR longer than the limit", over, 0, 0, 0, 0, 1, 0, 0);
        Check.due("17: there is no answer", over.agent.answer(0), -1);
    }

    private static void manyAtTheLimit() {
        byte[] text = pair(Ber.text("t".repeat(40)), NAME);
        byte[] number = pair(Ber.integer(0), 1, 3, 6, 1, 2, 0);
        byte[] ticks = pair(Ber.number(67, 0), 1, 3, 6, 1, 3, 0);
        byte[] two = Ber.answer(1, 0, 0, text, text, number, number);
        byte[] three = Ber.answer(1, 0, 0, text, text, number, number, ticks);
        byte[] question = Ber.many(0, 3, pair(Ber.NULL, 1, 3), pair(Ber.NULL, 1, 3));
        Check.due("16: MANY as long as the limit", withText(40, three.length).ask(question), three);
        Check.due("16: MANY, a row more is too long", withText(40, three.length - 1).ask(question), two);
        Check.due("16: MANY, just the rows before", withText(40, two.length).ask(question), two);
        Desk desk = withText(40, two.length);
        desk.ask(question);
        counted("MANY at the limit", desk, 0, 0, 0, 0, 0, 1, 0);
    }

    private static void manyFirstsAtTheLimit() {
        byte[] text = pair(Ber.text("t".repeat(40)), NAME);
        byte[] end = pair(Ber.field(130), 2, 3);
        byte[] atFirst = pair(Ber.NULL, 1, 3);
        byte[] atEnd = pair(Ber.NULL, 2, 3);
        byte[] question = Ber.many(3, 5, atFirst, atFirst, atEnd, atEnd);
        byte[] one = Ber.answer(1, 0, 0, text);
        Check.due("16: MANY, a first row that is too long", withText(40, 100).ask(question), one);
        byte[] all = Ber.answer(1, 0, 0, text, text, end, end);
        Check.due("16: MANY, all of them", withText(40, all.length).ask(question), all);
        byte[] fewer = Ber.answer(1, 0, 0, text, text, end);
        Check.due("16: MANY, without the last", withText(40, all.length - 1).ask(question), fewer);
    }

    /** LENGTHS of 126 .. 130 and 254 .. 258 in each of the fields that hold the rows. */
    private static void lengthsOfAnswers() {
        int[] base = {60, 180};
        for (int start : base) {
            for (int octets = start; octets < start + 110; octets++) {
                Desk desk = withText(octets % 41, 1000);
                int whole = octets / 41;
                byte[][] asked = Ber.times(whole + 1, pair(Ber.text("q".repeat(40)), 1, 3, 9));
                asked[whole] = pair(Ber.NULL, NAME);
                byte[][] told = Ber.times(whole + 1, pair(Ber.NO_OBJECT, 1, 3, 9));
                told[whole] = pair(Ber.text("t".repeat(octets % 41)), NAME);
                Check.due("16: GET with a text of " + octets % 41, desk.feed(Ber.ask(1, Ber.GET, asked)).agent.question(),
                        Ber.answer(1, 0, 0, told).length);
                byte[][] echoed = Ber.times(whole + 1, pair(Ber.text("q".repeat(40)), 1, 3, 9));
                echoed[whole] = pair(Ber.text("q".repeat(octets % 41)), 1, 3, 9);
                byte[] answer = Ber.answer(0, 2, 1, echoed);
                Check.due("16: an ERROR with " + octets + " octets of text",
                        Desk.usual().ask(Ber.ask(0, Ber.GET, echoed)), answer);
            }
        }
    }

    /** How many rows of a text of 40 octets, and how many octets of a last one, make an answer of 100, 484 or 1000. */
    private static final int[][] FITTING = {{100, 1, 19}, {484, 9, 5}, {1000, 19, 31}};

    /** Two scalars with texts of 40 and of so many octets; 484 is the first LIMIT, the others are told. */
    private static Desk withTexts(int last, int limit) {
        Desk desk = new Desk();
        desk.community("pub", true);
        desk.community("see", false);
        desk.scalar(4, 2, 0, 40, 1, 3, 0);
        desk.scalar(4, 2, 0, 40, 1, 3, 1);
        desk.text(0, 0, "t".repeat(40));
        desk.text(1, 0, "t".repeat(last));
        if (limit != 484) {
            desk.agent.limit(limit);
        }
        return desk;
    }

    /** So many rows of the first scalar, and a last one of the second; the last number is 0 of an instance. */
    private static byte[][] rows(int firsts, byte[] first, byte[] last, long... behind) {
        byte[][] all = Ber.times(firsts + 1, pair(first, join(new long[] {1, 3, 0}, behind)));
        all[firsts] = pair(last, join(new long[] {1, 3, 1}, behind));
        return all;
    }

    private static long[] join(long[] begin, long... behind) {
        long[] all = java.util.Arrays.copyOf(begin, begin.length + behind.length);
        System.arraycopy(behind, 0, all, begin.length, behind.length);
        return all;
    }

    private static byte[][] toldRows(int firsts, int last) {
        return rows(firsts, Ber.text("t".repeat(40)), Ber.text("t".repeat(last)), 0);
    }

    /** "THE LIMIT (100 .. 1000 octets, at first 484): if an answer without ERROR would be longer": and as long as it. */
    private static void asLongAsEachLimit() {
        for (int[] fit : FITTING) {
            for (int version = 0; version <= 1; version++) {
                byte[][] told = toldRows(fit[1], fit[2]);
                byte[] answer = Ber.answer(version, 0, 0, told);
                Check.due("an answer as long as the limit", answer.length, fit[0]);
                Check.due("an answer one longer", Ber.answer(version, 0, 0, toldRows(fit[1], fit[2] + 1)).length, fit[0] + 1);
                byte[][] asked = rows(fit[1], Ber.NULL, Ber.NULL, 0);
                byte[][] before = rows(fit[1], Ber.NULL, Ber.NULL);
                byte[] get = Ber.ask(version, Ber.GET, asked);
                byte[] next = Ber.ask(version, Ber.NEXT, before);
                byte[] getError = version == 0 ? Ber.answer(0, 1, 0, asked) : Ber.answer(1, 1, 0);
                byte[] nextError = version == 0 ? Ber.answer(0, 1, 0, before) : Ber.answer(1, 1, 0);
                Check.due("16: GET of " + fit[0], withTexts(fit[2], fit[0]).ask(get), answer);
                Check.due("16: GET, one longer", withTexts(fit[2] + 1, fit[0]).ask(get), getError);
                Check.due("16: NEXT of " + fit[0], withTexts(fit[2], fit[0]).ask(next), answer);
                Check.due("16: NEXT, one longer", withTexts(fit[2] + 1, fit[0]).ask(next), nextError);
                setAsLongAs(fit, version, told, answer);
            }
        }
    }

    /** Of a SET that is one longer nothing is set; in VERSION 0 the ERROR has its rows, and is as long. */
    private static void setAsLongAs(int[] fit, int version, byte[][] told, byte[] answer) {
        Desk fits = withTexts(0, fit[0]);
        Check.due("16: SET of " + fit[0], fits.ask(Ber.ask(version, Ber.SET, told)), answer);
        Check.due("20: it is set", fits.agent.told(1, 0), fit[2]);
        counted("SET as long as the limit", fits, 0, 0, 0, 0, 0, 1, 0);
        Desk over = withTexts(0, fit[0]);
        byte[] longer = Ber.ask(version, Ber.SET, toldRows(fit[1], fit[2] + 1));
        Check.due("16: SET, one longer", over.ask(longer), version == 0 ? null : Ber.answer(1, 1, 0));
        Check.due("20: nothing is set", over.agent.told(1, 0), 0);
        int dropped = version == 0 ? 1 : 0;
        counted("SET, one longer", over, 0, 0, 0, 0, dropped, 1 - dropped, 1 - dropped);
    }

    /** "An answer with an ERROR that is longer than the LIMIT is not given: dropped, counted as 5." And as long as it. */
    private static void errorsAsLongAsEachLimit() {
        for (int[] fit : FITTING) {
            byte[][] told = toldRows(fit[1], fit[2]);
            byte[][] longer = toldRows(fit[1], fit[2] + 1);
            for (int version = 0; version <= 1; version++) {
                long[] head = {7, version == 0 ? 2 : 6, 1};
                Desk fits = withTexts(0, fit[0]);
                Check.due("16: a forbidden SET of " + fit[0],
                        fits.ask(Ber.message(version, "see", Ber.SET, new long[] {7, 0, 0}, told)),
                        Ber.message(version, "see", Ber.ANSWER, head, told));
                counted("a forbidden SET as long as the limit", fits, 0, 0, 0, 1, 0, 1, 1);
                Desk over = withTexts(0, fit[0]);
                Check.due("16: a forbidden SET, one longer",
                        over.ask(Ber.message(version, "see", Ber.SET, new long[] {7, 0, 0}, longer)), (byte[]) null);
                counted("a forbidden SET, one longer", over, 0, 0, 0, 1, 1, 0, 0);
            }
            told[0] = pair(Ber.text("t".repeat(40)), 1, 3, 9, 0);
            longer[0] = told[0];
            Desk fits = withTexts(0, fit[0]);
            Check.due("16: GET with an ERROR, of " + fit[0], fits.ask(Ber.ask(0, Ber.GET, told)), Ber.answer(0, 2, 1, told));
            counted("GET with an ERROR", fits, 0, 0, 0, 0, 0, 1, 1);
            Desk over = withTexts(0, fit[0]);
            Check.due("16: GET with an ERROR, one longer", over.ask(Ber.ask(0, Ber.GET, longer)), (byte[]) null);
            counted("GET with an ERROR, one longer", over, 0, 0, 0, 0, 1, 0, 0);
        }
    }

    /** MANY: "or a row more (of the first s ones, too) would make the answer longer than the LIMIT". */
    private static void manyAsLongAsEachLimit() {
        for (int[] fit : FITTING) {
            byte[][] asked = rows(fit[1], Ber.NULL, Ber.NULL);
            byte[][] all = toldRows(fit[1], fit[2]);
            byte[][] fewer = java.util.Arrays.copyOf(all, fit[1]);
            // as the last of the first ones, as the one behind them, and as the last of a round
            for (int s : new int[] {fit[1] + 1, fit[1], 0}) {
                byte[] question = Ber.many(s, 1, asked);
                Desk fits = withTexts(fit[2], fit[0]);
                Check.due("16: MANY of " + fit[0], fits.ask(question), Ber.answer(1, 0, 0, all));
                Desk over = withTexts(fit[2] + 1, fit[0]);
                Check.due("16: MANY, one longer", over.ask(question), Ber.answer(1, 0, 0, fewer));
                counted("MANY, one longer", over, 0, 0, 0, 0, 0, 1, 0);
            }
        }
        // the row that is too long is not told, nor a shorter one behind it
        byte[][] asked = {pair(Ber.NULL, 1, 3, 0), pair(Ber.NULL, 1, 3, 0), pair(Ber.NULL, 1, 3, 1)};
        Check.due("16: MANY, nor any behind it", withTexts(0, 100).ask(Ber.many(3, 0, asked)),
                Ber.answer(1, 0, 0, pair(Ber.text("t".repeat(40)), 1, 3, 0, 0)));
    }

    /** Another LIMIT is for the answers to come. */
    private static void limitOfAnswersToCome() {
        Desk desk = withTexts(5, 484);
        byte[] question = Ber.ask(1, Ber.GET, rows(9, Ber.NULL, Ber.NULL, 0));
        Check.due("16: an answer of 484", desk.feed(question).agent.question(), 484);
        Check.due("14: a lower one", desk.agent.limit(483), 484);
        Check.due("17: the answer stays", desk.agent.answer(483), 't');
        Check.due("16: it is too long now", desk.ask(question), Ber.answer(1, 1, 0));
        Check.due("14: a refused one", desk.agent.limit(1001), -2);
        Check.due("16: it is still too long", desk.ask(question), Ber.answer(1, 1, 0));
        Check.due("14: the first again", desk.agent.limit(484), 483);
        Check.due("16: it fits again", desk.feed(question).agent.question(), 484);
    }
}
