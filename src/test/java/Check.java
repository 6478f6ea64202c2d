import java.util.Arrays;

/** Counts the answers that are not as due, and tells them. */
final class Check {
    private static int made = 0;
    private static int wrong = 0;

    private Check() {
    }

    static void due(String what, long got, long want) {
        made++;
        if (got != want) {
            tellWrong(what + " answered " + got + ", due is " + want);
        }
    }

    static void due(String what, String got, String want) {
        made++;
        if (!want.equals(got)) {
            tellWrong(what + " answered " + got + ", due is " + want);
        }
    }

    static void due(String what, byte[] got, byte[] want) {
        made++;
        if (!Arrays.equals(got, want)) {
            tellWrong(what + " answered " + shown(got) + ", due is " + shown(want));
        }
    }

    static void isTrue(String what, boolean holds) {
        made++;
        if (!holds) {
            tellWrong(what);
        }
    }

    private static void tellWrong(String text) {
        wrong++;
        if (wrong <= 40) {
            System.out.println(text);
        }
    }

    static int wrongSoFar() {
        return wrong;
    }

    static String shown(byte[] octets) {
        if (octets == null) {
            return "nothing";
        }
        StringBuilder text = new StringBuilder();
        for (byte octet : octets) {
            text.append(String.format("%02x ", octet & 255));
        }
        return text.toString().trim();
    }

    /** Ends a test's main method. */
    static void finish() {
        System.out.println(made + " answers looked at, " + wrong + " not as due");
        if (wrong != 0 || made == 0) {
            System.exit(1);
        }
    }
}
