/** What the document's Terms name as bounds of NAMES, OCTETS and TAGS: as they are read, and as they are written. */
public final class OctetBoundsTest {
    private static final long MOST = 4294967295L;
    private static final int[] NUMBER_TAGS = {2, 65, 66, 67, 70};

    public static void main(String[] args) {
        namesOfTwoToSixteenNumbers();
        numbersOfNames();
        firstTwoNumbers();
        lesserByTheFirstThatDiffers();
        lesserIfItEnds();
        lengthBelow128();
        lengthBehind129To132();
        otherLengths();
        lengthsTooLarge();
        lengthsThatAreCut();
        lengthsOfAnswers();
        lengthOfARow();
        numbersOfOneToNineOctets();
        numbersWrittenShortest();
        longCountersWrittenShortest();
        namesWrittenShortest();
        noneBeginsWith128();
        rangeOfIntegers();
        rangeOfCounters();
        rangeOfLongCounters();
        octetsOfTexts();
        octetsOfNothing();
        octetsOfAddresses();
        tagsOfAnswersAlone();
        Check.finish();
    }

    /** A value that is read: the SET of what no object has gives its row back. */
    private static void valueIsRead(String what, byte[] given, byte[] shortest) {
        byte[] name = Ber.name(1, 3, 9);
        Desk.answered(what, Ber.ask(1, Ber.SET, Ber.pair(name, given)), Ber.answer(1, 17, 1, Ber.pair(name, shortest)));
    }

    private static void valueIsBad(String what, byte[] given) {
        Desk.dropped(what, 1, Question.with(Question.VALUE, given));
    }

    private static void nameIsRead(String what, byte[] given) {
        Desk.answered(what + " asked for", Ber.ask(1, Ber.GET, Ber.pair(given, Ber.NULL)),
                Ber.answer(1, 0, 0, Ber.pair(given, Ber.NO_OBJECT)));
        valueIsRead(what + " as a value", given, given);
    }

    private static void nameIsBad(String what, byte[] given) {
        Desk.dropped(what + " asked for", 1, Question.with(Question.NAME, given));
        valueIsBad(what + " as a value", given);
    }

    private static byte[] name(String octets) {
        return Ber.field(6, Ber.hex(octets));
    }

    /** "NAMES are rows of 2 to 16 NUMBERS". */
    private static void namesOfTwoToSixteenNumbers() {
        nameIsBad("a name of no number", name(""));
        nameIsRead("a name of 2", name("2c"));
        nameIsRead("a name of 3", name("2c 01"));
        nameIsRead("a name of 16", name("2c 01 01 01 01 01 01 01 01 01 01 01 01 01 01"));
        nameIsBad("a name of 17", name("2c 01 01 01 01 01 01 01 01 01 01 01 01 01 01 01"));
        nameIsBad("a name of 18", name("2c 01 01 01 01 01 01 01 01 01 01 01 01 01 01 01 01"));
    }

    /** "of 0 .. 2^32 - 1". */
    private static void numbersOfNames() {
        nameIsRead("a number of 0", name("2c 00"));
        nameIsRead("a number of 2^31 - 1", name("2c 87 ff ff ff 7f"));
        nameIsRead("a number of 2^31", name("2c 88 80 80 80 00"));
        nameIsRead("a number of 2^32 - 1", name("2c 8f ff ff ff 7f"));
        nameIsBad("a number of 2^32", name("2c 90 80 80 80 00"));
        nameIsBad("a number of 2^32, and one more", name("2c 90 80 80 80 00 01"));
        nameIsBad("a number of 2^35", name("2c 81 80 80 80 80 00"));
        nameIsBad("a number of 2^64", name("2c 82 80 80 80 80 80 80 80 80 00"));
        nameIsBad("a number of 2^70", name("2c 81 80 80 80 80 80 80 80 80 80 00"));
        Desk desk = Desk.usual();
        byte[] set = Ber.pair(Ber.name(1, 3, 6, 1, 5, 0), name("2c 8f ff ff ff 7f 00"));
        Check.due("16: SET of a name", desk.ask(Ber.ask(1, Ber.SET, set)), Ber.answer(1, 0, 0, set));
        Check.due("21: 2^32 - 1", desk.agent.part(Desk.SCALAR_NAME, 0, 2), MOST);
        Check.due("21: 0", desk.agent.part(Desk.SCALAR_NAME, 0, 3), 0);
    }

    /** "the first 0 .. 2, the second 0 .. 39". */
    private static void firstTwoNumbers() {
        int[][] both = {{0, 0}, {0, 39}, {1, 0}, {1, 39}, {2, 0}, {2, 39}};
        String[] octets = {"00", "27", "28", "4f", "50", "77"};
        for (int i = 0; i < both.length; i++) {
            nameIsRead("the first octet " + octets[i], name(octets[i]));
            Desk desk = Desk.usual();
            desk.ask(Ber.ask(1, Ber.SET, Ber.pair(Ber.name(1, 3, 6, 1, 5, 0), name(octets[i] + "05"))));
            Check.due("21: the first number of " + octets[i], desk.agent.part(Desk.SCALAR_NAME, 0, 0), both[i][0]);
            Check.due("21: the second number of " + octets[i], desk.agent.part(Desk.SCALAR_NAME, 0, 1), both[i][1]);
            desk.identity(Desk.SCALAR_NAME, 0, both[i][0], both[i][1]);
            Check.due("16: as written", desk.ask(Ber.ask(1, Ber.GET, Ber.pair(Ber.name(1, 3, 6, 1, 5, 0), Ber.NULL))),
                    Ber.answer(1, 0, 0, Ber.pair(Ber.name(1, 3, 6, 1, 5, 0), name(octets[i]))));
        }
        nameIsBad("the first octet 120", name("78"));
        nameIsBad("the first octet 127", name("7f 01"));
        nameIsBad("a first number of two octets, 128", name("81 00"));
        nameIsBad("a first number of two octets, 2^14 - 1", name("ff 7f 01"));
    }

    /** "of two the lesser is that with the lesser number where they first differ". */
    private static void lesserByTheFirstThatDiffers() {
        long[][] rising = {{0, 0, MOST}, {0, 1, 0}, {0, 39, MOST}, {1, 0}, {1, 3, 0, MOST}, {1, 3, 1, 0}, {1, 3, 127},
            {1, 3, 128}, {1, 3, 255, 9}, {1, 3, 256, 0}, {1, 3, 2147483647L, 5}, {1, 3, 2147483648L, 0}, {1, 3, MOST, 0},
            {1, 4, 0}, {2, 0, 0}};
        Desk desk = new Desk();
        desk.community("pub", false);
        for (int i = 0; i < rising.length; i++) {
            // made in another order than that of their names
            desk.scalar(2, 1, 0, 1, rising[(7 * i) % rising.length]);
        }
        long[] from = {0, 0};
        for (long[] name : rising) {
            long[] instance = java.util.Arrays.copyOf(name, name.length + 1);
            next("the name that follows", desk, from, instance);
            from = instance;
        }
    }

    private static void next(String what, Desk desk, long[] from, long... to) {
        Check.due("16: NEXT, " + what, desk.ask(Ber.ask(0, Ber.NEXT, Ber.pair(Ber.name(from), Ber.NULL))),
                Ber.answer(0, 0, 0, Ber.pair(Ber.name(to), Ber.integer(0))));
    }

    /** "or that which ends". */
    private static void lesserIfItEnds() {
        Desk desk = new Desk();
        desk.community("pub", false);
        desk.scalar(2, 1, 0, 1, 1, 3, 5);
        desk.scalar(2, 1, 0, 1, 1, 3, 6);
        next("from a name that ends before", desk, new long[] {1, 3}, 1, 3, 5, 0);
        next("from the object's name", desk, new long[] {1, 3, 5}, 1, 3, 5, 0);
        next("from the instance", desk, new long[] {1, 3, 5, 0}, 1, 3, 6, 0);
        next("from a name that goes on behind the instance", desk, new long[] {1, 3, 5, 0, 0}, 1, 3, 6, 0);
    }

    /** "LENGTH: an octet below 128 itself": a ROW of rows of 127 octets; 128 is no LENGTH of one octet. */
    private static void lengthBelow128() {
        byte[] seven = Ber.pair(Ber.name(1, 3), Ber.NULL);
        byte[] eight = Ber.pair(Ber.name(1, 3, 1), Ber.NULL);
        byte[] rows127 = Ber.join(Ber.join(Ber.times(17, seven)), eight);
        byte[] rows128 = Ber.join(Ber.join(Ber.times(16, seven)), eight, eight);
        byte[] told7 = Ber.pair(Ber.name(1, 3), Ber.NO_OBJECT);
        byte[] told8 = Ber.pair(Ber.name(1, 3, 1), Ber.NO_OBJECT);
        byte[] answer127 = Ber.answer(1, 0, 0, Ber.join(Ber.times(17, told7)), told8);
        byte[] answer128 = Ber.answer(1, 0, 0, Ber.join(Ber.times(16, told7)), told8, told8);
        Desk.answered("rows of 127 octets", rows(Ber.octets(48, 127), rows127), answer127);
        Desk.answered("rows of 127 octets behind 129", rows(Ber.octets(48, 129, 127), rows127), answer127);
        Desk.dropped("rows of 128 octets with one LENGTH octet", 1, rows(Ber.octets(48, 128), rows128));
        Desk.answered("rows of 128 octets behind 129", rows(Ber.octets(48, 129, 128), rows128), answer128);
        Desk.dropped("rows of 128 octets, told as 127", 1, rows(Ber.octets(48, 127), rows128));
    }

    private static byte[] rows(byte[] head, byte[] rows) {
        return Question.with(Question.ROWS, Ber.join(head, rows));
    }

    /** "129 .. 132: 1 .. 4 octets follow, which are it, the highest first": of each field. */
    private static void lengthBehind129To132() {
        Desk.answered("the unchanged question", Question.unchanged(), Question.answer());
        for (int place = 0; place < Question.PLACES; place++) {
            for (int n = 1; n <= 4; n++) {
                int octets = n;
                Desk.answered(Question.placeName(place) + " with a LENGTH of " + n + " octets",
                        Question.changed(place, field -> Ber.longField(field[0] & 255, octets, Question.content(field))),
                        Question.answer());
            }
        }
        byte[] texts = Ber.join(Ber.times(7, Ber.pair(Ber.name(1, 3), Ber.text("t".repeat(38)))));
        Check.due("rows of 315 octets", texts.length, 315);
        byte[] answer = Ber.answer(1, 0, 0, Ber.times(7, Ber.pair(Ber.name(1, 3), Ber.NO_OBJECT)));
        Desk.answered("1 and 59 behind 130", rows(Ber.octets(48, 130, 1, 59), texts), answer);
        Desk.dropped("59 and 1 behind 130", 1, rows(Ber.octets(48, 130, 59, 1), texts));
    }

    /** No other octet than these is a LENGTH: of a field without octets and of one with them. */
    private static void otherLengths() {
        for (int octet : new int[] {128, 133, 134, 192, 254, 255}) {
            for (int place = 0; place < Question.PLACES; place++) {
                Desk.dropped(Question.placeName(place) + " with the LENGTH octet " + octet, 1,
                        Question.changed(place, field -> Question.withLength(field, octet)));
            }
            valueIsBad("NOTHING with the LENGTH octet " + octet, Ber.octets(5, octet));
            valueIsBad("an empty TEXT with the LENGTH octet " + octet, Ber.octets(4, octet));
        }
        valueIsBad("a LENGTH of five octets", Ber.octets(5, 133, 0, 0, 0, 0, 0));
        valueIsBad("a LENGTH of five octets, of an integer", Ber.octets(2, 133, 0, 0, 0, 0, 1, 7));
    }

    /** LENGTHS of 4 octets go to 2^32 - 1: none of these is below 0, or what its lowest octets say. */
    private static void lengthsTooLarge() {
        for (int place = 0; place < Question.PLACES; place++) {
            String name = Question.placeName(place);
            Desk.dropped(name + " with the LENGTH 2^32 - 1", 1,
                    Question.changed(place, field -> Question.withLength(field, 132, 255, 255, 255, 255)));
            Desk.dropped(name + " with the LENGTH 2^31 and its own", 1,
                    Question.changed(place, field -> Question.withLength(field, 132, 128, 0, 0, field[1])));
            Desk.dropped(name + " with the LENGTH 2^24 and its own", 1,
                    Question.changed(place, field -> Question.withLength(field, 132, 1, 0, 0, field[1])));
            Desk.dropped(name + " with the LENGTH 2^16 and its own", 1,
                    Question.changed(place, field -> Question.withLength(field, 131, 1, 0, field[1])));
            Desk.dropped(name + " with the LENGTH 2^8 and its own", 1,
                    Question.changed(place, field -> Question.withLength(field, 130, 1, field[1])));
        }
    }

    /** A field that ends with its TAG or within its LENGTH, where the row or the tape ends. */
    private static void lengthsThatAreCut() {
        valueIsBad("a value that is a TAG alone", Ber.octets(5));
        valueIsBad("a TEXT that is a TAG alone", Ber.octets(4));
        for (int n = 1; n <= 4; n++) {
            byte[] cut = new byte[n + 1];
            cut[0] = 5;
            cut[1] = (byte) (128 + n);
            valueIsBad("a LENGTH of " + n + " octets without its last one", cut);
        }
        Desk.dropped("a name that is a TAG alone, and no value", 1, Question.with(Question.PAIR, Ber.octets(48, 1, 6)));
        Desk.dropped("a row that is a TAG alone", 1, Question.with(Question.PAIR, Ber.octets(48)));
        Desk.dropped("rows that are a TAG alone", 1, Question.with(Question.ROWS, Ber.octets(48)));
        Desk.dropped("a question that is a TAG alone", 1, Question.with(Question.ASKED, Ber.octets(160)));
        Desk.dropped("a tape that is a TAG alone", 1, Ber.octets(48));
        Desk.dropped("a tape that is a TAG and 129", 1, Ber.octets(48, 129));
    }

    /** "(in answers: in the first way, or with 129, or with 130, whichever is shortest)". */
    private static void lengthsOfAnswers() {
        String[] heads = {"7f", "8180", "81ff", "820100", "820101"};
        int[] sizes = {127, 128, 255, 256, 257};
        for (int i = 0; i < sizes.length; i++) {
            byte[] rows = answerWithRowsOf(sizes[i]);
            hasHead("the ROW of rows", rows, sizes[i], "30" + heads[i]);
            // three numbers of 3 octets and the head of the rows are in front of these
            int head = sizes[i] - 9 < 130 ? 2 : sizes[i] - 9 < 259 ? 3 : 4;
            hasHead("the ANSWER", answerWithRowsOf(sizes[i] - 9 - head), sizes[i], "a2" + heads[i]);
        }
        byte[] small = answerWithRowsOf(106);
        Check.due("16: an outer ROW of 127", Check.shown(small).substring(0, 5), "30 7f");
        Check.due("16: an outer ROW of 128", Check.shown(answerWithRowsOf(107)).substring(0, 8), "30 81 80");
        Check.due("16: an outer ROW of 255", Check.shown(answerWithRowsOf(232)).substring(0, 8), "30 81 ff");
        Check.due("16: an outer ROW of 256", Check.shown(answerWithRowsOf(233)).substring(0, 11), "30 82 01 00");
    }

    private static void hasHead(String what, byte[] answer, int content, String head) {
        byte[] want = Ber.hex(head);
        int begin = answer.length - content - want.length;
        Check.due("16: " + what + " of " + content, java.util.Arrays.copyOfRange(answer, begin, begin + want.length), want);
    }

    /** The answer to a SET of what no object has: so many octets of rows, as they were in the question. */
    private static byte[] answerWithRowsOf(int octets) {
        byte[] rows = new byte[0];
        while (octets - rows.length >= 40) {
            rows = Ber.join(rows, Ber.pair(Ber.name(1, 3), Ber.text("t".repeat(13))));
        }
        rows = Ber.join(rows, Ber.pair(Ber.name(1, 3), Ber.text("t".repeat(octets - rows.length - 7))));
        Check.due("octets of the rows", rows.length, octets);
        byte[] answer = Desk.usual().ask(Ber.ask(1, Ber.SET, rows));
        Check.due("16: rows of " + octets, answer, Ber.answer(1, 17, 1, rows));
        return answer;
    }

    /** The same of a ROW of a name and a value, which are NAMES of up to 71 octets. */
    private static void lengthOfARow() {
        long[] longest = {1, 3, MOST, MOST, MOST, MOST, MOST, MOST, MOST, MOST, MOST, MOST, MOST, MOST, MOST, MOST};
        for (int octets = 120; octets <= 146; octets++) {
            // 71 octets of the name and two heads of 2 leave so many to the value
            byte[] value = Ber.field(6, nameContent(octets - 75));
            byte[] row = Ber.join(octets < 128 ? Ber.octets(48, octets) : Ber.octets(48, 129, octets), Ber.name(longest), value);
            Desk.answered("a row of " + octets, Ber.ask(1, Ber.SET, row), Ber.answer(1, 17, 1, row));
        }
    }

    /** So many octets of a name whose numbers are as long as can be. */
    private static byte[] nameContent(int octets) {
        String[] numbers = {"05", "8100", "818000", "81808000", "8fffffff7f"};
        byte[] content = {43};
        while (content.length < octets) {
            content = Ber.join(content, Ber.hex(numbers[Math.min(5, octets - content.length) - 1]));
        }
        return content;
    }

    /** "A NUMBER field has 1 to 9 octets, the highest first, with a sign in its highest bit". */
    private static void numbersOfOneToNineOctets() {
        for (int octets = 0; octets <= 11; octets++) {
            boolean good = octets >= 1 && octets <= 9;
            for (int tag : NUMBER_TAGS) {
                byte[] five = Ber.field(tag, wide(0, 5, octets));
                if (good) {
                    valueIsRead(octets + " octets of " + tag, five, Ber.field(tag, Ber.octets(5)));
                } else {
                    valueIsBad(octets + " octets of " + tag, five);
                }
            }
            byte[] below = Ber.field(2, wide(255, 251, octets));
            if (good) {
                valueIsRead(octets + " octets of -5", below, Ber.field(2, Ber.octets(251)));
            } else {
                valueIsBad(octets + " octets of -5", below);
            }
            for (int place : new int[] {Question.VERSION, Question.ID, Question.S, Question.T}) {
                String what = Question.placeName(place) + " of " + octets + " octets";
                byte[] question = Question.with(place, Ber.field(2, wide(0, place == Question.ID ? 7 : 1, octets)));
                if (good) {
                    Desk.answered(what, question, Question.answer());
                } else {
                    Desk.dropped(what, 1, question);
                }
            }
        }
    }

    private static byte[] wide(int fill, int last, int octets) {
        byte[] all = new byte[octets];
        java.util.Arrays.fill(all, (byte) fill);
        if (octets > 0) {
            all[octets - 1] = (byte) last;
        }
        return all;
    }

    /** "(in answers as few as tell it; at most 9)": at each bound, of each tag, and of the ID. */
    private static void numbersWrittenShortest() {
        long[] numbers = {0, 1, 127, 128, 255, 256, 32767, 32768, 65535, 65536, 8388607, 8388608, 2147483647, -1, -128, -129,
            -32768, -32769, -8388608, -8388609, -2147483648L};
        String[] octets = {"00", "01", "7f", "0080", "00ff", "0100", "7fff", "008000", "00ffff", "010000", "7fffff", "00800000",
            "7fffffff", "ff", "80", "ff7f", "8000", "ff7fff", "800000", "ff7fffff", "80000000"};
        for (int i = 0; i < numbers.length; i++) {
            byte[] written = Ber.field(2, Ber.hex(octets[i]));
            isWritten(2, numbers[i], octets[i]);
            byte[] rest = Ber.join(Ber.field(2, Ber.octets(0)), Ber.field(2, Ber.octets(0)), Ber.field(48));
            byte[] want = Ber.field(48, Ber.integer(1), Ber.text("pub"), Ber.field(162, written, rest));
            Desk.answered("the ID " + numbers[i],
                    Ber.message(1, "pub", Ber.GET, new long[] {numbers[i], 0, 0}), want);
            for (int tag = 65; tag <= 67 && numbers[i] >= 0; tag++) {
                isWritten(tag, numbers[i], octets[i]);
            }
        }
        for (int tag = 65; tag <= 67; tag++) {
            isWritten(tag, 2147483648L, "0080000000");
            isWritten(tag, MOST, "00ffffffff");
        }
    }

    private static void isWritten(int tag, long number, String octets) {
        Desk desk = new Desk();
        desk.community("pub", false);
        // with ACCESS 1 a scalar of TICKS would tell the clock
        desk.scalar(tag, 2, 0, 0, 1, 3);
        desk.agent.value(0, 0, number);
        Check.due("16: " + number + " of the tag " + tag,
                desk.ask(Ber.ask(1, Ber.GET, Ber.pair(Ber.name(1, 3, 0), Ber.NULL))),
                Ber.answer(1, 0, 0, Ber.pair(Ber.name(1, 3, 0), Ber.field(tag, Ber.hex(octets)))));
    }

    /** The same of a LONG COUNTER, whose 64 bits have no sign, so that an octet of 0 may stand in front. */
    private static void longCountersWrittenShortest() {
        isWritten(70, 0, "00");
        for (int octets = 1; octets <= 8; octets++) {
            long least = 1L << (8 * octets - 1);
            isWritten(70, least - 1, "7f" + "ff".repeat(octets - 1));
            isWritten(70, least, "0080" + "00".repeat(octets - 1));
            isWritten(70, -1L >>> (64 - 8 * octets), "00" + "ff".repeat(octets));
        }
        isWritten(70, -2, "00fffffffffffffffe");
    }

    /** "each in octets of 7 bits, the highest first, all but the last with 128". */
    private static void namesWrittenShortest() {
        long[] numbers = {0, 127, 128, 16383, 16384, 2097151, 2097152, 268435455, 268435456, 2147483647, 2147483648L, MOST};
        String[] octets = {"00", "7f", "8100", "ff7f", "818000", "ffff7f", "81808000", "ffffff7f", "8180808000",
            "87ffffff7f", "8880808000", "8fffffff7f"};
        for (int i = 0; i < numbers.length; i++) {
            Desk desk = Desk.usual();
            desk.identity(Desk.SCALAR_NAME, 0, 1, 3, numbers[i], 9);
            desk.scalar(2, 1, 0, 0, 1, 4, numbers[i]);
            byte[] value = name("2b" + octets[i] + "09");
            byte[] asked = name("2c" + octets[i]);
            byte[] found = name("2c" + octets[i] + "00");
            byte[][] pairs = {Ber.pair(Ber.name(1, 3, 6, 1, 4, 0), Ber.NULL), Ber.pair(asked, Ber.NULL)};
            Check.due("16: a name with " + numbers[i], desk.ask(Ber.ask(1, Ber.NEXT, pairs)), Ber.answer(1, 0, 0,
                    Ber.pair(Ber.name(1, 3, 6, 1, 5, 0), value), Ber.pair(found, Ber.integer(0))));
        }
    }

    /** "(none begins with 128)". */
    private static void noneBeginsWith128() {
        nameIsBad("the first with 128 in front", name("80 2c"));
        nameIsBad("the second octet 128", name("2c 80 01"));
        nameIsBad("the second octet 128, and 0", name("2c 80 00"));
        nameIsBad("the last number with 128 in front", name("2c 01 80 01"));
        nameIsBad("128 in front of 2^32 - 1", name("2c 80 8f ff ff ff 7f"));
        nameIsRead("128 behind 129", name("2c 81 80 80 01"));
        nameIsBad("a name that ends within a number", name("2c 81"));
        nameIsBad("a name that ends within its first number", name("81"));
        nameIsBad("a name that ends with 128", name("2c 81 80"));
    }

    /** "2 INTEGER (-2^31 .. 2^31 - 1)". */
    private static void rangeOfIntegers() {
        valueIsRead("-2^31", Ber.field(2, Ber.hex("80000000")), Ber.field(2, Ber.hex("80000000")));
        valueIsRead("2^31 - 1", Ber.field(2, Ber.hex("7fffffff")), Ber.field(2, Ber.hex("7fffffff")));
        String[] beyond = {"0080000000", "ff7fffffff", "0100000000", "7fffffffffffffff", "8000000000000000",
            "008000000000000000", "00ffffffffffffffff", "ff0000000000000000", "ff7fffffffffffffff", "7fffffffffffffffff",
            "800000000000000000", "010000000000000000", "feffffffffffffffff"};
        for (String octets : beyond) {
            byte[] field = Ber.field(2, Ber.hex(octets));
            valueIsBad("an integer " + octets, field);
            for (int place : new int[] {Question.VERSION, Question.ID, Question.S, Question.T}) {
                Desk.dropped(Question.placeName(place) + " " + octets, 1, Question.with(place, field));
            }
        }
    }

    /** "65 COUNTER, 66 GAUGE, 67 TICKS (0 .. 2^32 - 1)". */
    private static void rangeOfCounters() {
        for (int tag = 65; tag <= 67; tag++) {
            valueIsRead("0 of " + tag, Ber.field(tag, Ber.hex("00")), Ber.field(tag, Ber.hex("00")));
            valueIsRead("2^32 - 1 of " + tag, Ber.field(tag, Ber.hex("00ffffffff")), Ber.field(tag, Ber.hex("00ffffffff")));
            valueIsRead("2^32 - 1 of " + tag + " in nine octets", Ber.field(tag, Ber.hex("0000000000ffffffff")),
                    Ber.field(tag, Ber.hex("00ffffffff")));
            for (String octets : new String[] {"ff", "80", "ffffffff", "0100000000", "ff00000000", "00ffffffffffffffff",
                "010000000000000000", "ff0000000000000001", "8000000000000001", "ffffffffffffffffff"}) {
                valueIsBad(octets + " of " + tag, Ber.field(tag, Ber.hex(octets)));
            }
        }
    }

    /** "70 LONG COUNTER (0 .. 2^64 - 1, here as a long with its bits)". */
    private static void rangeOfLongCounters() {
        String[] good = {"00", "7fffffffffffffff", "008000000000000000", "00ffffffffffffffff"};
        long[] bits = {0, Long.MAX_VALUE, Long.MIN_VALUE, -1};
        for (int i = 0; i < good.length; i++) {
            byte[] field = Ber.field(70, Ber.hex(good[i]));
            valueIsRead("the long counter " + good[i], field, field);
            Desk desk = Desk.usual();
            desk.ask(Ber.ask(1, Ber.SET, Ber.pair(Ber.name(1, 3, 6, 1, 4, 0), field)));
            Check.due("20: the long counter " + good[i], desk.agent.told(Desk.SCALAR_LONG, 0), bits[i]);
        }
        for (String octets : new String[] {"ff", "80", "ffffffffffffffff", "8000000000000000", "ffffffffffffffffff",
            "010000000000000000", "800000000000000000", "7fffffffffffffffff"}) {
            valueIsBad("the long counter " + octets, Ber.field(70, Ber.hex(octets)));
        }
    }

    /** "4 TEXT (0 .. 40 octets)". */
    private static void octetsOfTexts() {
        for (int octets : new int[] {0, 1, 39, 40}) {
            byte[] text = Ber.text("\u00ff".repeat(octets));
            valueIsRead("a text of " + octets, text, text);
        }
        valueIsBad("a text of 41", Ber.text("t".repeat(41)));
        valueIsBad("a text of 128", Ber.text("t".repeat(128)));
    }

    /** "5 NOTHING (no octets)". */
    private static void octetsOfNothing() {
        valueIsRead("nothing", Ber.hex("0500"), Ber.hex("0500"));
        valueIsRead("nothing in a long way", Ber.hex("0584 00000000"), Ber.hex("0500"));
        valueIsBad("nothing with an octet", Ber.hex("050100"));
    }

    /** "64 ADDRESS (4 octets)": also where a number was asked for before. */
    private static void octetsOfAddresses() {
        for (int octets : new int[] {0, 1, 3, 5, 8}) {
            valueIsBad("an address of " + octets, Ber.field(64, new byte[octets]));
        }
        for (String octets : new String[] {"00000000", "ffffffff", "80000000", "00000001"}) {
            valueIsRead("the address " + octets, Ber.field(64, Ber.hex(octets)), Ber.field(64, Ber.hex(octets)));
        }
        Desk desk = Desk.usual();
        desk.ask(Ber.ask(1, Ber.SET, Ber.pair(Ber.name(1, 3, 6, 1, 4, 0), Ber.longCounter(-1))));
        desk.ask(Ber.ask(1, Ber.SET, Ber.pair(Ber.name(1, 3, 6, 1, 6, 0), Ber.address(0, 0, 0, 9))));
        Check.due("20: an address behind a long counter", desk.agent.told(Desk.SCALAR_ADDRESS, 0), 9);
    }

    /** "in answers also 128 NO OBJECT, 129 NO INSTANCE, 130 END, without octets": in questions they are no values. */
    private static void tagsOfAnswersAlone() {
        for (int tag = 0; tag < 256; tag++) {
            boolean ofValues = tag == 2 || (tag >= 4 && tag <= 6) || (tag >= 64 && tag <= 67) || tag == 70;
            if (!ofValues) {
                valueIsBad("a value with the tag " + tag, Ber.field(tag));
                valueIsBad("a value with the tag " + tag + " and an octet", Ber.field(tag, Ber.octets(5)));
                valueIsBad("a value with the tag " + tag + " and four octets", Ber.field(tag, Ber.octets(0, 0, 0, 5)));
            }
        }
        byte[][] names = {Ber.pair(Ber.name(1, 3), Ber.NULL), Ber.pair(Ber.name(1, 3, 6, 1, 2), Ber.NULL)};
        Desk.answered("NO OBJECT and NO INSTANCE", Ber.ask(1, Ber.GET, names), Ber.answer(1, 0, 0,
                Ber.pair(Ber.name(1, 3), Ber.hex("8000")), Ber.pair(Ber.name(1, 3, 6, 1, 2), Ber.hex("8100"))));
        Desk.answered("END", Ber.ask(1, Ber.NEXT, Ber.pair(Ber.name(2, 39), Ber.NULL)),
                Ber.answer(1, 0, 0, Ber.pair(Ber.name(2, 39), Ber.hex("8200"))));
    }
}
