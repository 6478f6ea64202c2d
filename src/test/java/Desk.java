/** An agent with shorter ways to feed it, and the tree that most tests ask. */
final class Desk {
    final TreeAgent agent = new TreeAgent();

    static final int SCALAR_TEXT = 0;
    static final int SCALAR_INTEGER = 1;
    static final int CLOCK = 2;
    static final int SCALAR_LONG = 3;
    static final int SCALAR_NAME = 4;
    static final int SCALAR_ADDRESS = 5;
    static final int HIDDEN = 6;
    static final int COLUMN_INTEGER = 7;
    static final int COLUMN_TEXT = 8;
    static final int COLUMN_COUNTER = 9;
    static final int COLUMN_STATUS = 10;

    /**
     * Scalars 1.3.6.1.1 .. 1.3.6.1.7, the table 1.3.6.2.1 with the columns 1 .. 3 and the STATUS 4,
     * and the communities "pub", which may SET, and "see", which may not.
     */
    static Desk usual() {
        Desk desk = new Desk();
        desk.scalar(4, 2, 0, 12, 1, 3, 6, 1, 1);
        desk.scalar(2, 2, -5, 300, 1, 3, 6, 1, 2);
        desk.scalar(67, 1, 0, 0, 1, 3, 6, 1, 3);
        desk.scalar(70, 2, 0, 0, 1, 3, 6, 1, 4);
        desk.scalar(6, 2, 0, 0, 1, 3, 6, 1, 5);
        desk.scalar(64, 2, 0, 0, 1, 3, 6, 1, 6);
        desk.scalar(66, 0, 0, 0, 1, 3, 6, 1, 7);
        desk.table(1, 3, 6, 2, 1);
        desk.agent.column(0, 1, 2, 2, 0, 100);
        desk.agent.column(0, 2, 4, 2, 1, 8);
        desk.agent.column(0, 3, 65, 1, 0, 0);
        desk.agent.status(0, 4);
        desk.community("pub", true);
        desk.community("see", false);
        return desk;
    }

    Desk hold(long... numbers) {
        agent.number(-1);
        for (long number : numbers) {
            agent.number(number);
        }
        return this;
    }

    Desk feed(byte[] octets) {
        agent.feed(0, 0);
        int done = 0;
        while (done < octets.length) {
            int n = Math.min(8, octets.length - done);
            long v = 0;
            for (int i = 0; i < n; i++) {
                v = (v << 8) | (octets[done + i] & 255);
            }
            agent.feed(v, n);
            done += n;
        }
        return this;
    }

    Desk feed(String text) {
        return feed(Ber.chars(text));
    }

    int scalar(int tag, int access, long least, long most, long... name) {
        return hold(name).agent.scalar(tag, access, least, most);
    }

    int table(long... name) {
        return hold(name).agent.table();
    }

    int community(String name, boolean sets) {
        return feed(name).agent.community(sets);
    }

    int view(int community, boolean in, long... name) {
        return hold(name).agent.view(community, in);
    }

    int text(int object, int index, String text) {
        return feed(text).agent.text(object, index);
    }

    int identity(int object, int index, long... name) {
        return hold(name).agent.identity(object, index);
    }

    /** The octets of the answer to a question; null if it was dropped. */
    byte[] ask(byte[] question) {
        int size = feed(question).agent.question();
        if (size == 0) {
            Check.due("answer(0) behind a dropped question", agent.answer(0), -1);
            return null;
        }
        byte[] octets = new byte[size];
        for (int i = 0; i < size; i++) {
            octets[i] = (byte) agent.answer(i);
        }
        Check.due("the octet behind the answer", agent.answer(size), -1);
        return octets;
    }

    /** A question to the usual tree that has to be dropped, and counted so. */
    static void dropped(String what, int cause, byte[] question) {
        Desk desk = usual();
        Check.due("16: " + what, desk.ask(question), (byte[]) null);
        for (int i = 1; i <= 7; i++) {
            Check.due("18: " + what + ", count(" + i + ")", desk.agent.count(i), i == cause ? 1 : 0);
        }
    }

    /** A question to the usual tree that has to be answered so. */
    static void answered(String what, byte[] question, byte[] answer) {
        Desk desk = usual();
        Check.due("16: " + what, desk.ask(question), answer);
        Check.due("18: " + what + ", malformed", desk.agent.count(1), 0);
        Check.due("18: " + what + ", given", desk.agent.count(6), 1);
    }
}
