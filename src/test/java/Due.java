import java.nio.charset.StandardCharsets;

/** What the tests share: telling a text, comparing answers, ending with the exit code. */
final class Due {
    private static int wrong;
    private static int asked;

    private Due() {
    }

    static void is(String call, long got, long want) {
        asked++;
        if (got != want) {
            wrong++;
            System.out.println(call + " answered " + got + ", due is " + want);
        }
    }

    /** Feeds a text byte by byte as it is, padded to whole feeds and cut by end(). */
    static void feed(KeyInn x, String text) {
        byte[] bytes = text.getBytes(StandardCharsets.ISO_8859_1);
        int before = x.count(6);
        for (int i = 0; i < bytes.length; i += 20) {
            int[] five = new int[5];
            for (int j = 0; j < 20; j++) {
                int sign = i + j < bytes.length ? bytes[i + j] & 255 : 0;
                five[j / 4] = five[j / 4] << 8 | sign;
            }
            x.feed(five[0], five[1], five[2], five[3], five[4]);
        }
        x.end(before + bytes.length);
    }

    static int tell(KeyInn x, String text) {
        feed(x, text);
        return x.inn();
    }

    static KeyInn inn(String text) {
        KeyInn x = new KeyInn();
        int lines = tell(x, text);
        if (lines < 0) {
            is("inn() of " + text, lines, 0);
        }
        return x;
    }

    static void finish() {
        System.out.println(asked + " answers, " + wrong + " not as due");
        if (wrong != 0) {
            System.exit(1);
        }
    }
}
