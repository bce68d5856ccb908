import java.lang.reflect.Method;
import java.util.HashMap;
import java.util.Map;
import java.util.Random;

/** Asks KeyInn and Plain the same calls, drawn from fixed seeds, and compares the answers. */
public final class AgreeTest {
    /** A method's name and the kind of each argument (see draw). */
    private static final String[] CALLS = {
        "fault w", "key kK", "reach s", "steps sr", "trusts gg", "guest gw", "off g", "comes gn", "fears gn",
        "unsafe nw", "risk n", "fits g", "first g", "give g", "still g", "most n", "ways n", "lay ng", "spare n",
        "full n", "rings no", "next ng", "lose kb", "open ", "bare n", "harm kn", "worst n", "change r",
        "fewest no", "theft rn", "away gn", "could t", "all ", "gang o", "round o", "rounds Ro", "loops ",
        "leave no", "shut no", "swap ggn", "visitors rn", "calm ", "judge S", "then Sn", "season x",
        "seasons xNw", "count c", "keep I", "back I", "row SWL", "write Siv", "paste SiSii",
        "book grk", "book grk", "book grk", "book grk", "book grk", "book grk", "write Siv", "write Siv",
    };

    private static final Map<String, Method> OF_INN = new HashMap<>();
    private static final Map<String, Method> OF_PLAIN = new HashMap<>();

    private final Random random;
    private KeyInn inn = new KeyInn();
    private Plain plain = new Plain();

    private AgreeTest(long seed) {
        random = new Random(seed);
    }

    public static void main(String[] args) throws Exception {
        for (Method m : KeyInn.class.getDeclaredMethods()) {
            OF_INN.put(m.getName(), m);
        }
        for (Method m : Plain.class.getDeclaredMethods()) {
            if (java.lang.reflect.Modifier.isPublic(m.getModifiers())) {
                OF_PLAIN.put(m.getName(), m);
            }
        }
        int runs = args.length > 1 ? Integer.parseInt(args[1]) : 300;
        for (int seed = 0; seed < runs; seed++) {
            new AgreeTest(seed).run(seed);
        }
        Due.finish();
    }

    private void run(int seed) throws Exception {
        int texts = 1 + random.nextInt(3);
        for (int t = 0; t < texts; t++) {
            String text = text();
            if (random.nextInt(4) == 0) {
                text = spoil(text);
            }
            tell(seed, text);
            for (int i = 0; i < 120; i++) {
                String[] call = CALLS[random.nextInt(CALLS.length)].split(" ", 2);
                ask(seed, call[0], call[1]);
            }
        }
    }

    private void tell(int seed, String text) {
        Due.is(seed + " bytes left", inn.count(6), plain.count(6));
        if (random.nextInt(5) != 0) {
            Due.is(seed + " end(0)", inn.end(0), plain.end(0));
        }
        for (int i = 0; i < text.length(); i += 20) {
            int[] five = new int[5];
            for (int j = 0; j < 20; j++) {
                five[j / 4] = five[j / 4] << 8 | (i + j < text.length() ? text.charAt(i + j) & 255 : random.nextInt(256));
            }
            Due.is(seed + " feed", inn.feed(five[0], five[1], five[2], five[3], five[4]),
                    plain.feed(five[0], five[1], five[2], five[3], five[4]));
        }
        Due.is(seed + " end", inn.end(text.length()), plain.end(text.length()));
        Due.is(seed + " inn of " + text, inn.inn(), plain.inn());
        for (int what = -1; what < 3; what++) {
            Due.is(seed + " fault(" + what + ") of " + text, inn.fault(what), plain.fault(what));
        }
    }

    private void ask(int seed, String name, String kinds) throws Exception {
        Object[] args = new Object[kinds.length()];
        StringBuilder call = new StringBuilder().append(seed).append(' ').append(name);
        for (int i = 0; i < args.length; i++) {
            args[i] = draw(kinds.charAt(i));
            call.append(' ').append(args[i]);
        }
        Due.is(call.toString(), ((Number) OF_INN.get(name).invoke(inn, args)).intValue(),
                ((Number) OF_PLAIN.get(name).invoke(plain, args)).intValue());
    }

    private Object draw(char kind) {
        if (kind == 'b') {
            return random.nextBoolean();
        }
        if (kind == 'v') {
            long way = 10000L * random.nextInt(9) + 100L * random.nextInt(5) + random.nextInt(6);
            return random.nextInt(8) == 0 ? random.nextLong() : way;
        }
        if (random.nextInt(25) == 0) {
            int[] odd = {-1, Integer.MIN_VALUE, Integer.MAX_VALUE, 12, 60, 61, 9, 20, 2000000000};
            return odd[random.nextInt(odd.length)];
        }
        switch (kind) {
            case 'g':
                return random.nextInt(inn.count(4) + 1);
            case 'r':
                return random.nextInt(inn.count(0) + 1);
            case 'k':
                return random.nextInt(inn.count(2) + 1);
            case 'n':
                return random.nextInt(inn.count(1) + 1);
            case 's':
                return random.nextInt(1 << inn.count(2)) & random.nextInt(1 << 12);
            case 'R':
                return random.nextInt(1 << inn.count(0));
            case 'K':
                return random.nextInt(3) == 0 ? 10 + random.nextInt(inn.count(1) + 1) : random.nextInt(3);
            case 'o':
                return random.nextInt(2);
            case 'w':
                return random.nextInt(6);
            case 'c':
                return random.nextInt(12);
            case 't':
                return random.nextInt(inn.count(9) + 1);
            case 'x':
                return random.nextInt(2000000000);
            case 'N':
                return 1 + random.nextInt(5);
            case 'L':
                return random.nextInt(8);
            case 'i':
                return random.nextInt(5);
            default:
                return random.nextInt(4);
        }
    }

    private String text() {
        int rooms = 2 + random.nextInt(9);
        int nights = 1 + random.nextInt(random.nextInt(4) == 0 ? 20 : 5);
        int keys = random.nextInt(8);
        int doors = random.nextInt(5);
        int guests = random.nextInt(10);
        StringBuilder b = new StringBuilder();
        b.append("inn rooms ").append(rooms).append(" nights ").append(nights).append(";");
        boolean ringed = random.nextInt(3) == 0;
        for (int k = 0; k < keys; k++) {
            int a = ringed ? k % rooms : random.nextInt(rooms);
            int c = ringed ? (k + 1) % Math.min(rooms, Math.max(2, keys)) : (a + 1 + random.nextInt(rooms - 1)) % rooms;
            b.append(" key ").append(a).append(' ').append(c == a ? (a + 1) % rooms : c);
            int e = random.nextInt(rooms);
            if (!ringed && random.nextInt(4) == 0 && e != a && e != c) {
                b.append(' ').append(e);
            }
            b.append(random.nextBoolean() ? ";" : " ;\n");
        }
        for (int d = 0; d < doors; d++) {
            int a = random.nextInt(rooms);
            b.append("door ").append(a).append(" to ").append((a + 1 + random.nextInt(rooms - 1)) % rooms).append(';');
        }
        for (int g = 0; g < guests; g++) {
            int from = random.nextInt(3) == 0 ? 0 : random.nextInt(nights);
            b.append("guest from ").append(from).append("to").append(from + random.nextInt(nights - from));
            b.append(" luggage ").append(random.nextInt(100)).append(";");
        }
        int trusts = guests < 2 ? 0 : random.nextInt(3 * guests);
        for (int t = 0; t < trusts; t++) {
            int g = random.nextInt(guests);
            b.append("trust ").append(g).append(' ').append((g + 1 + random.nextInt(guests - 1)) % guests);
            b.append(' ').append((g + 1 + random.nextInt(guests - 1)) % guests).append(';');
        }
        int wants = guests == 0 ? 0 : random.nextInt(4);
        for (int w = 0; w < wants; w++) {
            b.append("wants ").append(random.nextInt(guests)).append(' ').append(random.nextInt(rooms));
            b.append(' ').append(random.nextInt(rooms)).append(';');
        }
        return b.toString();
    }

    private String spoil(String text) {
        StringBuilder b = new StringBuilder(text);
        String[] bits = {";", " ", "\n", "key", "door", "inn", "guest", "9", "0", "12", "a", "K", "\t", "\u00ff", "99999999999",
            "\u0000", "to", "wants", "trust", "luggage", "key 0 1;", "door 0 to 1;", "guest from 0 to 0 luggage 0;", "00"};
        for (int i = random.nextInt(3); i >= 0 && b.length() > 0; i--) {
            int at = random.nextInt(b.length());
            if (random.nextInt(3) == 0) {
                b.delete(at, Math.min(b.length(), at + 1 + random.nextInt(6)));
            } else if (random.nextInt(5) == 0) {
                b.setLength(at);
            } else {
                b.insert(at, bits[random.nextInt(bits.length)]);
            }
        }
        return b.toString();
    }
}
