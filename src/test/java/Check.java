import java.nio.charset.StandardCharsets;
import java.util.Objects;

/** What the tests share: comparing answers, and putting texts into the input buffer. */
final class Check {
    interface Call {
        Object answer();
    }

    static final Class<IllegalArgumentException> ARGUMENT = IllegalArgumentException.class;
    static final Class<IllegalStateException> STATE = IllegalStateException.class;
    static final Class<IndexOutOfBoundsException> INDEX = IndexOutOfBoundsException.class;

    private static int wrong = 0;
    private static int looked = 0;

    private Check() {
    }

    static void same(String what, Object due, Object answer) {
        looked++;
        if (!Objects.equals(due, answer)) {
            wrong++;
            System.out.println(what + " answered " + answer + ", due is " + due);
        }
    }

    static void refuses(String what, Class<? extends RuntimeException> due, Call call) {
        same(what, due, answer(call));
    }

    /** What a call answers; the class of the exception if it throws one. */
    static Object answer(Call call) {
        try {
            return call.answer();
        } catch (RuntimeException e) {
            return e.getClass();
        }
    }

    /** Ends the test: with exit code 1 if an answer was wrong or none was looked at. */
    static void end() {
        System.out.println(looked + " answers, " + wrong + " of them wrong");
        if (wrong != 0 || looked == 0) {
            System.exit(1);
        }
    }

    /** Appends a text, with spaces up to the next 20 bytes, and returns its length. */
    static int append(KiteLogger x, String text) {
        byte[] bytes = text.getBytes(StandardCharsets.ISO_8859_1);
        for (int i = 0; i < bytes.length; i += 20) {
            x.appendText(four(bytes, i), four(bytes, i + 4), four(bytes, i + 8), four(bytes, i + 12), four(bytes, i + 16));
        }
        return bytes.length;
    }

    static int four(byte[] bytes, int from) {
        int four = 0;
        for (int i = from; i < from + 4; i++) {
            four = four << 8 | (i < bytes.length ? bytes[i] & 255 : 32);
        }
        return four;
    }

    static int load(KiteLogger x, String text) {
        return x.loadStation(append(x, text));
    }

    static int run(KiteLogger x, String text) {
        return x.runScript(append(x, text));
    }

    static KiteLogger station(String text) {
        KiteLogger x = new KiteLogger();
        if (load(x, text) < 1) {
            throw new IllegalStateException("the test's station is wrong: " + text);
        }
        return x;
    }

    static String output(KiteLogger x, int length) {
        StringBuilder text = new StringBuilder();
        for (int i = 0; i < length; i++) {
            text.append((char) x.outputByte(i));
        }
        return text.toString();
    }
}
