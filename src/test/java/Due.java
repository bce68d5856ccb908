import java.nio.charset.StandardCharsets;
import java.util.function.IntUnaryOperator;

/** What the tests share: telling a text, comparing answers, ending with the exit code. */
final class Due {
    /** Set ahead of what is asked in a test method of its own. */
    private static String ahead = "";
    private static int wrong;
    private static int asked;

    private Due() {
    }

    static void is(String call, long got, long want) {
        asked++;
        if (got != want) {
            wrong++;
            System.out.println(ahead + call + " answered " + got + ", due is " + want);
        }
    }

    /** Names the test method that asks from now on. */
    static void begin(String test) {
        ahead = test.isEmpty() ? "" : test + ": ";
    }

    static int asked() {
        return asked;
    }

    /** The least and the greatest are taken; beside them, and by a wrap of bits behind them, -2. */
    static void bounds(String call, IntUnaryOperator answer, int least, int greatest) {
        taken(call, answer, least);
        taken(call, answer, greatest);
        absent(call, answer, least - 1, greatest + 1, least - 32, least + 32 > greatest ? least + 32 : least - 64,
                greatest + 64, Integer.MIN_VALUE, Integer.MAX_VALUE);
    }

    static void taken(String call, IntUnaryOperator answer, int argument) {
        int got = answer.applyAsInt(argument);
        is(call + " of " + argument + " is refused (" + got + ")", got == -2 ? 1 : 0, 0);
    }

    static void absent(String call, IntUnaryOperator answer, int... arguments) {
        for (int argument : arguments) {
            is(call + " of " + argument, answer.applyAsInt(argument), -2);
        }
    }

    /** Feeds a text byte by byte as it is, padded to whole feeds and cut by end(). */
    static void feed(KeyInn x, String text) {
        byte[] bytes = text.getBytes(StandardCharsets.ISO_8859_1);
        int before = x.count(6);
        for (int i = 0; i < bytes.length; i += 20) {
            int[] five = new int[5];
            for (int j = 0; j < 20; j++) {
                int sign = i + j < bytes.length ? bytes[i + j] & 255 : 0;
                five[j / 4] = five[j / 4] << 8 | sign;
            }
            x.feed(five[0], five[1], five[2], five[3], five[4]);
        }
        x.end(before + bytes.length);
    }

    static int tell(KeyInn x, String text) {
        feed(x, text);
        return x.inn();
    }

    static KeyInn inn(String text) {
        KeyInn x = new KeyInn();
        int lines = tell(x, text);
        if (lines < 0) {
            is("inn() of " + text, lines, 0);
        }
        return x;
    }

    static void finish() {
        System.out.println(asked + " answers, " + wrong + " not as due");
        if (wrong != 0) {
            System.exit(1);
        }
    }
}
