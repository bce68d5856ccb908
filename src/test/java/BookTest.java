/** Promises 6 to 20: keys, reach, guests, bookings, fears, fitting. */
public final class BookTest {
    /** Five rooms; key 0 opens 0 and 1, key 1: 1 2, key 2: 2 0, key 3: 3 1, key 4: 2 3 4; a door from 3 to 4. */
    private static final String TEXT = "inn rooms 5 nights 6;key 0 1;key 1 2;key 2 0;key 3 1;key 2 3 4;door 3 to 4;"
            + "guest from 0 to 3 luggage 10;guest from 2 to 5 luggage 20;guest from 3 to 3 luggage 40;"
            + "guest from 4 to 5 luggage 7;trust 0 1;trust 2 0 1;wants 3 4;wants 2 1 3 0;";

    public static void main(String[] args) {
        keysAndReach();
        guests();
        bookings();
        fears();
        fitting();
        giving();
        Due.finish();
    }

    private static void keysAndReach() {
        KeyInn x = Due.inn(TEXT);
        Due.is("key(0, 0)", x.key(0, 0), 3);
        Due.is("key(4, 0)", x.key(4, 0), 28);
        Due.is("key(4, 1)", x.key(4, 1), 0);
        x.lose(4, true);
        Due.is("key(4, 1) lost", x.key(4, 1), 1);
        Due.is("key(0, 10)", x.key(0, 10), -1);
        Due.is("key(0, 15)", x.key(0, 15), -1);
        Due.is("key(0, 16)", x.key(0, 16), -2);
        Due.is("key(0, 2)", x.key(0, 2), -2);
        Due.is("key(0, 9)", x.key(0, 9), -2);
        Due.is("key(0, -1)", x.key(0, -1), -2);
        Due.is("key(0, min)", x.key(0, Integer.MIN_VALUE), -2);
        Due.is("key(5, 0)", x.key(5, 0), -2);
        Due.is("key(-1, 0)", x.key(-1, 0), -2);
        Due.is("reach(0)", x.reach(0), 0);
        Due.is("reach(1)", x.reach(1), 3);
        Due.is("reach(8)", x.reach(8), 26);
        Due.is("reach(9)", x.reach(9), 27);
        Due.is("reach(31)", x.reach(31), 31);
        Due.is("reach(32)", x.reach(32), -2);
        Due.is("reach(-1)", x.reach(-1), -2);
        Due.is("steps(8, 3)", x.steps(8, 3), 1);
        Due.is("steps(8, 4)", x.steps(8, 4), 2);
        Due.is("steps(8, 0)", x.steps(8, 0), -1);
        Due.is("steps(0, 0)", x.steps(0, 0), -1);
        Due.is("steps(8, 5)", x.steps(8, 5), -2);
        Due.is("steps(8, -1)", x.steps(8, -1), -2);
        Due.is("steps(32, 0)", x.steps(32, 0), -2);
        KeyInn y = Due.inn("inn rooms 6 nights 1;key 0 1;door 1 to 2;door 3 to 2;door 3 to 4;door 5 to 4;door 0 to 4;");
        Due.is("row reach", y.reach(1), 63);
        Due.is("row steps 2", y.steps(1, 2), 2);
        Due.is("row steps 3", y.steps(1, 3), 3);
        Due.is("row steps 5", y.steps(1, 5), 3);
        y = Due.inn("inn rooms 3 nights 1;key 0 2;door 0 to 1;door 1 to 2;");
        y.lose(0, true);
        y.change(2);
        Due.is("through all rooms", y.steps(1, 2), 3);
    }

    private static void guests() {
        KeyInn x = Due.inn(TEXT);
        Due.is("trusts(0, 1)", x.trusts(0, 1), 1);
        Due.is("trusts(1, 0)", x.trusts(1, 0), 0);
        Due.is("trusts(2, 1)", x.trusts(2, 1), 1);
        Due.is("trusts(2, 2)", x.trusts(2, 2), -2);
        Due.is("trusts(0, 4)", x.trusts(0, 4), -2);
        Due.is("trusts(-1, 0)", x.trusts(-1, 0), -2);
        int[] due = {-1, -1, 2, 5, 20, 31};
        for (int what = 0; what < 6; what++) {
            Due.is("guest(1, " + what + ")", x.guest(1, what), due[what]);
        }
        Due.is("guest(3, 5)", x.guest(3, 5), 16);
        Due.is("guest(2, 5)", x.guest(2, 5), 11);
        Due.is("guest(0, 6)", x.guest(0, 6), -2);
        Due.is("guest(0, -1)", x.guest(0, -1), -2);
        Due.is("guest(4, 0)", x.guest(4, 0), -2);
        Due.is("guest(-1, 0)", x.guest(-1, 0), -2);
    }

    private static void bookings() {
        KeyInn x = Due.inn(TEXT);
        Due.is("book: no guest", x.book(4, 0, 0), -2);
        Due.is("book: no room", x.book(0, 5, 0), -2);
        Due.is("book: no key", x.book(0, 0, 5), -2);
        Due.is("book: key does not open", x.book(0, 2, 0), -5);
        Due.is("book: does not want", x.book(3, 3, 3), -5);
        Due.is("book(0, 1, 0)", x.book(0, 1, 0), 0);
        Due.is("book: is booked", x.book(0, 0, 0), -3);
        Due.is("book: booked, no room", x.book(0, 9, 0), -2);
        Due.is("book: room taken", x.book(1, 1, 1), -5);
        Due.is("book: key taken", x.book(1, 0, 0), -5);
        Due.is("book: lost key", x.lose(1, true), 0);
        Due.is("book: lost key", x.book(1, 2, 1), -5);
        x.lose(1, false);
        Due.is("book: found key", x.book(1, 2, 1), 0);
        Due.is("other nights, same key: no", x.book(3, 4, 3), -5);
        Due.is("other nights", x.book(3, 4, 4), 0);
        Due.is("room(0)", x.guest(0, 0), 1);
        Due.is("key(0)", x.guest(0, 1), 0);
        Due.is("key 0 on night 3", x.key(0, 13), 0);
        Due.is("key 0 on night 4", x.key(0, 14), -1);
        Due.is("key 1 on night 1", x.key(1, 11), -1);
        Due.is("key 1 on night 2", x.key(1, 12), 1);
        Due.is("booked", x.count(7), 11);
        Due.is("off(0)", x.off(0), 100);
        Due.is("off(0) twice", x.off(0), -1);
        Due.is("off(3)", x.off(3), 404);
        Due.is("off(4)", x.off(4), -2);
        Due.is("off(-1)", x.off(-1), -2);
        Due.is("not booked", x.guest(0, 0), -1);
        KeyInn y = Due.inn("inn rooms 2 nights 4;key 0 1;guest from 0 to 1 luggage 1;guest from 2 to 3 luggage 1;"
                + "guest from 1 to 2 luggage 1;");
        Due.is("first", y.book(0, 0, 0), 0);
        Due.is("behind him, the same", y.book(1, 0, 0), 0);
        Due.is("between", y.book(2, 1, 0), -5);
    }

    private static void fears() {
        KeyInn x = Due.inn(TEXT);
        x.book(0, 1, 0);
        x.book(1, 2, 1);
        x.book(2, 3, 3);
        Due.is("comes(0, 3)", x.comes(0, 3), 3);
        Due.is("comes(0, 4)", x.comes(0, 4), 0);
        Due.is("comes(2, 3)", x.comes(2, 3), 26);
        Due.is("comes(3, 4)", x.comes(3, 4), 0);
        Due.is("comes(0, 6)", x.comes(0, 6), -2);
        Due.is("comes(4, 0)", x.comes(4, 0), -2);
        Due.is("fears(0, 3)", x.fears(0, 3), 4);
        Due.is("fears(0, 2)", x.fears(0, 2), 0);
        Due.is("fears(1, 3)", x.fears(1, 3), 0);
        Due.is("fears(0, -1)", x.fears(0, -1), -2);
        Due.is("fears(-1, 0)", x.fears(-1, 0), -2);
        Due.is("unsafe(3, 0)", x.unsafe(3, 0), 1);
        Due.is("unsafe(3, 1)", x.unsafe(3, 1), 1);
        Due.is("unsafe(3, 2)", x.unsafe(3, 2), 2);
        Due.is("unsafe(2, 0)", x.unsafe(2, 0), 0);
        Due.is("unsafe(2, 2)", x.unsafe(2, 2), -1);
        Due.is("unsafe(3, 3)", x.unsafe(3, 3), -2);
        Due.is("unsafe(3, -1)", x.unsafe(3, -1), -2);
        Due.is("unsafe(6, 0)", x.unsafe(6, 0), -2);
        Due.is("risk(3)", x.risk(3), 10);
        Due.is("risk(2)", x.risk(2), 0);
        Due.is("risk(-1)", x.risk(-1), -2);
        x.lose(4, true);
        Due.is("risk(3) with a stranger", x.risk(3), 70);
        x.lose(3, true);
        Due.is("risk(3) both", x.risk(3), 70);
        Due.is("a lost key still brings him", x.fears(0, 3), 4);
        KeyInn y = Due.inn("inn rooms 2 nights 1;key 0 1;key 0 1;guest from 0 to 0 luggage 3;guest from 0 to 0 luggage 4;");
        y.book(0, 0, 0);
        y.book(1, 1, 1);
        Due.is("both fear", y.unsafe(0, 0), 2);
        Due.is("two pairs", y.unsafe(0, 1), 2);
        Due.is("the first pair", y.unsafe(0, 2), 1);
        Due.is("all luggage", y.risk(0), 7);
    }

    private static void fitting() {
        KeyInn x = Due.inn(TEXT);
        Due.is("fits(0) in the empty inn", x.fits(0), 11);
        Due.is("fits(3)", x.fits(3), 1);
        Due.is("first(3)", x.first(3), 404);
        Due.is("first(0)", x.first(0), 0);
        Due.is("fits(2)", x.fits(2), 7);
        x.book(0, 1, 0);
        // Guest 1 (trusted by 0, not trusting him): not room 0 or 1, not key 0.
        Due.is("fits(1)", x.fits(1), 6);
        Due.is("first(1)", x.first(1), 201);
        // Guest 2 trusts 0, who does not trust him: key may not come to room 1.
        Due.is("fits(2)", x.fits(2), 2);
        Due.is("first(2)", x.first(2), 2);
        Due.is("fits(0)", x.fits(0), -3);
        Due.is("first(0)", x.first(0), -3);
        Due.is("fits(4)", x.fits(4), -2);
        Due.is("first(-1)", x.first(-1), -2);
        x.book(1, 2, 1);
        x.lose(4, true);
        Due.is("fits(3) lost", x.fits(3), 0);
        Due.is("first(3) lost", x.first(3), -1);
        Due.is("give(3) lost", x.give(3), -1);
        Due.is("still(3) lost", x.still(3), -1);
    }

    private static void giving() {
        // Each guest wants one room alone; keys 0 and 1 open room 0, keys 0 and 2 room 1, key 1 room 2.
        KeyInn x = Due.inn("inn rooms 4 nights 2;key 0 1;key 0 2;key 1 3;guest from 0 to 1 luggage 1;"
                + "guest from 0 to 0 luggage 1;guest from 1 to 1 luggage 1;wants 0 0;wants 1 1;wants 2 2;");
        Due.is("first(0)", x.first(0), 0);
        Due.is("fits(0)", x.fits(0), 2);
        // By key 0 he comes to room 1, and key 1 to his: nobody could; by key 1 guest 1 could by key 2.
        Due.is("give(0)", x.give(0), 1);
        Due.is("still(0)", x.still(0), 1);
        Due.is("give(1)", x.give(1), 102);
        Due.is("still(1)", x.still(1), 2);
        Due.is("nothing is booked", x.count(7), 0);
        Due.is("give(3)", x.give(3), -2);
        Due.is("still(-1)", x.still(-1), -2);
        x.book(0, 0, 1);
        Due.is("give(0) booked", x.give(0), -3);
        Due.is("still(0) booked", x.still(0), -3);
        Due.is("still(1)", x.still(1), 0);
        KeyInn y = Due.inn("inn rooms 2 nights 1;key 0 1;guest from 0 to 0 luggage 1;");
        Due.is("alone: give", y.give(0), 0);
        Due.is("alone: still", y.still(0), 0);
    }
}
