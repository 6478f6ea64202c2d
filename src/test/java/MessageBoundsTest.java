import java.util.Arrays;

/** What the document's Terms name as bounds of a MESSAGE: what is dropped, by what, and what is ANSWERED. */
public final class MessageBoundsTest {
    private static final long LEAST = -2147483648L;
    private static final long MOST = 2147483647L;

    public static void main(String[] args) {
        versionIs0Or1();
        communityIsAText();
        kindsOfQuestions();
        threeIntegers();
        atMost20Rows();
        fieldsHaveTheirTags();
        fieldsHaveJustWhatIsTold();
        nothingIsLeftOver();
        lengthsOneOff();
        lookedAtAtOnce();
        versionWhenItIsRead();
        communityWhenItIsRead();
        droppedOnesAreCounted();
        theSameHead();
        indexFrom1();
        rowsOfTheQuestion();
        theGreatestTape();
        Check.finish();
    }

    private static byte[] asked(long... name) {
        return Ber.pair(Ber.name(name), Ber.NULL);
    }

    /** "an INTEGER, the VERSION (0 or 1)". */
    private static void versionIs0Or1() {
        Desk.answered("VERSION 0", Ber.ask(0, Ber.GET), Ber.answer(0, 0, 0));
        Desk.answered("VERSION 1", Ber.ask(1, Ber.GET), Ber.answer(1, 0, 0));
        for (long version : new long[] {LEAST, -256, -255, -1, 2, 3, 256, 257, 65536, 65537, MOST}) {
            Desk.dropped("VERSION " + version, 2, Question.with(Question.VERSION, Ber.integer(version)));
        }
    }

    /** "a TEXT, the COMMUNITY": of 0 to 40 octets, and known. */
    private static void communityIsAText() {
        for (int octets : new int[] {0, 1, 39, 40}) {
            String name = "c".repeat(octets);
            byte[] question = Ber.message(1, name, Ber.GET, new long[] {7, 0, 0});
            Desk.dropped("no COMMUNITY of " + octets, 3, question);
            Desk desk = new Desk();
            desk.community(name, false);
            Check.due("16: a COMMUNITY of " + octets, desk.ask(question), Ber.message(1, name, Ber.ANSWER, new long[] {7, 0, 0}));
        }
        Desk.dropped("a COMMUNITY of 41", 1, Ber.message(1, "c".repeat(41), Ber.GET, new long[] {7, 0, 0}));
        for (String other : new String[] {"pu", "pubs", "pux", "xub", "PUB", "pub\u0000"}) {
            Desk.dropped("the COMMUNITY " + other, 3, Ber.message(1, other, Ber.GET, new long[] {7, 0, 0}));
        }
    }

    /** "a field with the tag 160 GET, 161 NEXT, 163 SET, 165 MANY (VERSION 1 alone)". */
    private static void kindsOfQuestions() {
        for (int tag = 0; tag < 256; tag++) {
            for (int version = 0; version <= 1; version++) {
                String what = "the question's tag " + tag + " in VERSION " + version;
                boolean good = tag == 160 || tag == 161 || tag == 163 || (tag == 165 && version == 1);
                if (good) {
                    Desk.answered(what, Ber.ask(version, tag), Ber.answer(version, 0, 0));
                } else {
                    Desk.dropped(what, 1, Ber.ask(version, tag));
                }
            }
        }
    }

    /** "of three INTEGERS, its ID, and two numbers s and t". */
    private static void threeIntegers() {
        for (int place = Question.ID; place <= Question.T; place++) {
            String name = Question.placeName(place);
            for (long number : new long[] {LEAST, MOST}) {
                byte[] answer = place != Question.ID ? Question.answer() : Ber.message(1, "pub", Ber.ANSWER,
                        new long[] {number, 0, 0}, Ber.pair(Ber.name(1, 3, 6, 1, 2, 0), Ber.integer(0)));
                Desk.answered(name + " of " + number, Question.with(place, Ber.integer(number)), answer);
            }
            Desk.dropped(name + " below", 1, Question.with(place, Ber.integer(LEAST - 1)));
            Desk.dropped(name + " above", 1, Question.with(place, Ber.integer(MOST + 1)));
            Desk.dropped("two INTEGERS", 1, Question.with(place, new byte[0]));
            Desk.dropped("four INTEGERS", 1, Question.changed(place, field -> Ber.join(field, field)));
        }
    }

    /** "a ROW of at most 20 ROWS": of each kind of question. */
    private static void atMost20Rows() {
        byte[] row = Ber.pair(Ber.name(2, 5), Ber.integer(1));
        byte[] noObject = Ber.pair(Ber.name(2, 5), Ber.NO_OBJECT);
        byte[] end = Ber.pair(Ber.name(2, 5), Ber.END);
        for (int n : new int[] {0, 1, 19, 20}) {
            byte[][] rows = Ber.times(n, row);
            Desk.answered("GET of " + n, Ber.ask(1, Ber.GET, rows), Ber.answer(1, 0, 0, Ber.times(n, noObject)));
            Desk.answered("NEXT of " + n, Ber.ask(1, Ber.NEXT, rows), Ber.answer(1, 0, 0, Ber.times(n, end)));
            Desk.answered("MANY of " + n, Ber.many(n, 0, rows), Ber.answer(1, 0, 0, Ber.times(n, end)));
            int error = n == 0 ? 0 : 17;
            Desk.answered("SET of " + n, Ber.ask(1, Ber.SET, rows), Ber.answer(1, error, error == 0 ? 0 : 1, rows));
        }
        for (int kind : new int[] {Ber.GET, Ber.NEXT, Ber.SET, Ber.MANY}) {
            Desk.dropped("21 rows of " + kind, 1, Ber.ask(1, kind, Ber.times(21, row)));
            Desk.dropped("40 rows of " + kind, 1, Ber.ask(1, kind, Ber.times(40, row)));
        }
    }

    /** Each field but the question's and the value has one tag. */
    private static void fieldsHaveTheirTags() {
        for (int place = 0; place < Question.PLACES; place++) {
            if (place == Question.VALUE || place == Question.ASKED) {
                continue;
            }
            for (int tag = 0; tag < 256; tag++) {
                int other = tag;
                byte[] question = Question.changed(place, field -> Question.withTag(field, other));
                String what = Question.placeName(place) + " with the tag " + tag;
                if (Arrays.equals(question, Question.unchanged())) {
                    Desk.answered(what, question, Question.answer());
                } else {
                    Desk.dropped(what, 1, question);
                }
            }
        }
    }

    /** "All fields have just what is told": none is missing, none stands twice. */
    private static void fieldsHaveJustWhatIsTold() {
        byte[] told = Ber.pair(Ber.name(1, 3, 6, 1, 2, 0), Ber.integer(0));
        for (int place = 0; place < Question.PLACES; place++) {
            byte[] none = Question.with(place, new byte[0]);
            byte[] twice = Question.changed(place, field -> Ber.join(field, field));
            String name = Question.placeName(place);
            if (place == Question.PAIR) {
                Desk.answered(name + " missing", none, Ber.answer(1, 0, 0));
                Desk.answered(name + " twice", twice, Ber.answer(1, 0, 0, told, told));
            } else {
                Desk.dropped(name + " missing", 1, none);
                Desk.dropped(name + " twice", 1, twice);
            }
        }
    }

    /** "and nothing is left over": no octet and no field behind the last one of each. */
    private static void nothingIsLeftOver() {
        byte[][] more = {Ber.octets(0), Ber.octets(5), Ber.octets(48), Ber.NULL, Ber.integer(0), Ber.field(49),
            Ber.octets(0, 0), Ber.octets(255, 255, 255)};
        for (byte[] octets : more) {
            for (int place = Question.PAIR; place <= Question.OUTER; place++) {
                Desk.dropped(Check.shown(octets) + " at the end of " + Question.placeName(place), 1,
                        Question.changed(place, field -> Ber.field(field[0] & 255, Question.content(field), octets)));
            }
            Desk.dropped(Check.shown(octets) + " behind it", 1, Ber.join(Question.unchanged(), octets));
        }
        byte[] whole = Question.unchanged();
        for (int n = 0; n < whole.length; n++) {
            Desk.dropped("its first " + n + " octets", 1, Arrays.copyOf(whole, n));
        }
    }

    /** A LENGTH one too long or one too short; of the VERSION and the COMMUNITY it makes other ones of them. */
    private static void lengthsOneOff() {
        for (int place = 0; place < Question.PLACES; place++) {
            int longer = place == Question.VERSION ? 2 : place == Question.COMMUNITY ? 3 : 1;
            int shorter = place == Question.COMMUNITY ? 3 : 1;
            Desk.dropped(Question.placeName(place) + ", its LENGTH one longer", longer,
                    Question.changed(place, field -> Question.withLength(field, field[1] + 1)));
            Desk.dropped(Question.placeName(place) + ", its LENGTH one shorter", shorter,
                    Question.changed(place, field -> Question.withLength(field, field[1] - 1)));
        }
    }

    /** "(The outer ROW ... go to the end of the TAPE: that is looked at behind their LENGTHS, at once.)" */
    private static void lookedAtAtOnce() {
        byte[][] heads = {Ber.join(Ber.integer(2), Ber.text("pub")), Ber.join(Ber.integer(1), Ber.text("no"))};
        byte[] asked = Ber.field(160, Ber.integer(7), Ber.integer(0), Ber.integer(0), Ber.field(48));
        for (int i = 0; i < heads.length; i++) {
            byte[] whole = Ber.field(48, heads[i], asked);
            Desk.dropped("the outer ROW as long as the tape", i + 2, whole);
            Desk.dropped("the outer ROW one shorter", 1, Question.withLength(whole, whole[1] - 1));
            Desk.dropped("the outer ROW one longer", 1, Question.withLength(whole, whole[1] + 1));
            Desk.dropped("the outer ROW with an octet behind it", 1, Ber.join(whole, Ber.octets(0)));
        }
    }

    /** "2 the VERSION is neither (when it is read)": what is behind it is not looked at. */
    private static void versionWhenItIsRead() {
        byte[][] behind = {new byte[0], Ber.octets(0), Ber.text("no"), Ber.text("c".repeat(41)), Ber.integer(0), Ber.octets(4, 9)};
        for (byte[] octets : behind) {
            Desk.dropped("VERSION 2, then " + Check.shown(octets), 2, Ber.field(48, Ber.integer(2), octets));
            int cause = Arrays.equals(octets, behind[2]) ? 3 : 1;
            Desk.dropped("VERSION 1, then " + Check.shown(octets), cause, Ber.field(48, Ber.integer(1), octets));
        }
        Desk.dropped("a VERSION that is no INTEGER", 1, Ber.field(48, Ber.integer(MOST + 1), Ber.text("no")));
    }

    /** "3 there is no such COMMUNITY (likewise)". */
    private static void communityWhenItIsRead() {
        byte[][] behind = {new byte[0], Ber.octets(0), Ber.field(162), Ber.field(160), Ber.octets(160, 9), Ber.octets(160, 128)};
        for (byte[] octets : behind) {
            Desk.dropped("no COMMUNITY, then " + Check.shown(octets), 3,
                    Ber.field(48, Ber.integer(0), Ber.text("no"), octets));
            Desk.dropped("a COMMUNITY, then " + Check.shown(octets), 1,
                    Ber.field(48, Ber.integer(0), Ber.text("pub"), octets));
        }
        Desk.dropped("MANY in VERSION 0 to no COMMUNITY", 3, Ber.message(0, "no", Ber.MANY, new long[] {7, 0, 0}));
    }

    /** "A message is dropped, and counted": each time, and nothing else is. */
    private static void droppedOnesAreCounted() {
        Desk desk = Desk.usual();
        byte[][] bad = {new byte[0], Ber.message(2, "pub", Ber.GET, new long[] {7, 0, 0}),
            Ber.message(1, "no", Ber.GET, new long[] {7, 0, 0})};
        int[] dropped = new int[bad.length];
        for (int i = 0; i < 9; i++) {
            int one = i * i % bad.length;
            Check.due("16: dropped", desk.ask(bad[one]), (byte[]) null);
            dropped[one]++;
            for (int k = 0; k < bad.length; k++) {
                Check.due("18: dropped as " + (k + 1), desk.agent.count(k + 1), dropped[k]);
            }
        }
        for (int what = 4; what <= 7; what++) {
            Check.due("18: count(" + what + ") of dropped ones", desk.agent.count(what), 0);
        }
        desk.ask(Ber.ask(1, Ber.GET));
        Check.due("18: an answer given behind dropped ones", desk.agent.count(6), 1);
    }

    /** "ANSWERED: the same VERSION, COMMUNITY, ID, tag 162 ANSWER, s the ERROR, t its INDEX": not the s and t asked with. */
    private static void theSameHead() {
        for (int version = 0; version <= 1; version++) {
            for (int kind : new int[] {Ber.GET, Ber.NEXT, Ber.SET}) {
                long[] numbers = {LEAST + version, MOST, LEAST};
                byte[] question = Ber.message(version, "see", kind, numbers);
                Desk.answered("a question of " + kind, question,
                        Ber.message(version, "see", 162, new long[] {LEAST + version, 0, 0}));
            }
        }
    }

    /** "its INDEX (from 1, 0 for none)": each of 20. */
    private static void indexFrom1() {
        for (int bad = 1; bad <= 20; bad++) {
            byte[][] rows = Ber.times(20, asked(1, 3, 6, 1, 2, 0));
            rows[bad - 1] = asked(2, 5);
            Desk.answered("GET with the ERROR at " + bad, Ber.ask(0, Ber.GET, rows), Ber.answer(0, 2, bad, rows));
            Desk.answered("NEXT with the ERROR at " + bad, Ber.ask(0, Ber.NEXT, rows), Ber.answer(0, 2, bad, rows));
            byte[][] sets = Ber.times(20, Ber.pair(Ber.name(1, 3, 6, 1, 2, 0), Ber.integer(1)));
            sets[bad - 1] = asked(2, 5);
            Desk.answered("SET with the ERROR at " + bad, Ber.ask(1, Ber.SET, sets), Ber.answer(1, 17, bad, sets));
        }
        byte[][] none = Ber.times(20, Ber.pair(Ber.name(1, 3, 6, 1, 2, 0), Ber.integer(1)));
        Desk.answered("SET without ERROR", Ber.ask(1, Ber.SET, none), Ber.answer(1, 0, 0, none));
    }

    /** "With an ERROR the rows are those of the question, written shortest." */
    private static void rowsOfTheQuestion() {
        byte[][] wide = {Ber.longField(2, 4, Ber.hex("000000000000000005")), Ber.longField(2, 1, Ber.hex("ffffffff80")),
            Ber.longField(4, 2, Ber.chars("ab")), Ber.longField(5, 3), Ber.longField(6, 4, Ber.hex("2b8f80808000")),
            Ber.longField(64, 1, Ber.hex("00000005")), Ber.longField(65, 2, Ber.hex("0000000080")),
            Ber.longField(66, 3, Ber.hex("00ffffffff")), Ber.longField(67, 4, Ber.hex("0000")),
            Ber.longField(70, 1, Ber.hex("00007fffffffffffff"))};
        String[] shortest = {"020105", "020180", "04026162", "0500", "06062b8f80808000", "400400000005", "41020080",
            "420500ffffffff", "430100", "46077fffffffffffff"};
        byte[][] given = new byte[wide.length][];
        byte[][] due = new byte[wide.length][];
        for (int i = 0; i < wide.length; i++) {
            given[i] = Ber.longField(48, 1 + i % 4, Ber.longField(6, 4 - i % 4, Ber.hex("778100")), wide[i]);
            due[i] = Ber.pair(Ber.name(2, 39, 128), Ber.hex(shortest[i]));
        }
        byte[] rows = Ber.longField(48, 3, given);
        byte[] question = Ber.longField(160, 4, Ber.hex("02020007"), Ber.integer(0), Ber.integer(0), rows);
        byte[] message = Ber.longField(48, 2, Ber.integer(0), Ber.longField(4, 1, Ber.chars("pub")), question);
        Desk.answered("rows that are not written shortest", message, Ber.answer(0, 2, 1, due));
    }

    /** A question as long as the TAPE can be: 20 names that are made longer till it has 1200 octets. */
    private static void theGreatestTape() {
        byte[] value = Ber.text("t".repeat(40));
        byte[][] rows = Ber.times(20, Ber.pair(Ber.name(1, 3, 9), value));
        byte[][] told = Ber.times(20, Ber.pair(Ber.name(1, 3, 9), Ber.NO_OBJECT));
        int left = 1200 - Ber.ask(1, Ber.GET, rows).length;
        for (int i = 0; i < rows.length && left > 0; i++) {
            int more = Math.min(13, left);
            long[] name = Arrays.copyOf(new long[] {1, 3, 9}, 3 + more);
            rows[i] = Ber.pair(Ber.name(name), value);
            told[i] = Ber.pair(Ber.name(name), Ber.NO_OBJECT);
            left -= more;
        }
        Desk desk = Desk.usual();
        desk.feed(Ber.ask(1, Ber.GET, rows));
        Check.due("2: the tape is full", desk.agent.feed(0, 1), -4);
        Check.due("16: a question of 1200", desk.agent.question(), Ber.answer(1, 0, 0, told).length);
    }
}
