/** Promises 40 to 47: a cleaner's keys, rings of keys, and what makes a night safer. */
public final class NightTest {
    private static final String GUEST = "guest from 0 to 1 luggage 1;";

    public static void main(String[] args) {
        cleaner();
        loops();
        leaving();
        shutting();
        swapping();
        visitors();
        calm();
        Due.finish();
    }

    private static void cleaner() {
        KeyInn x = Due.inn("inn rooms 6 nights 1;key 0 1;key 2 3;key 4 5;key 0 2 4;key 1 3 5;door 0 to 1;");
        Due.is("round(0)", x.round(0), 2);
        Due.is("round(1)", x.round(1), 24);
        Due.is("rounds(3, 1)", x.rounds(3, 1), 1);
        Due.is("rounds(12, 1)", x.rounds(12, 1), 2);
        Due.is("rounds(6, 1)", x.rounds(6, 1), 8);
        Due.is("rounds(6, 0)", x.rounds(6, 0), 1);
        Due.is("rounds(0, 0)", x.rounds(0, 0), 0);
        Due.is("rounds(0, 1)", x.rounds(0, 1), 0);
        Due.is("rounds(64, 0)", x.rounds(64, 0), -2);
        Due.is("rounds(-1, 0)", x.rounds(-1, 0), -2);
        Due.is("rounds(1, 2)", x.rounds(1, 2), -2);
        Due.is("round(2)", x.round(2), -2);
        Due.is("round(-1)", x.round(-1), -2);
        x.lose(3, true);
        Due.is("one lost: how many", x.round(0), 3);
        Due.is("one lost: which", x.round(1), 7);
        x.lose(4, true);
        x.lose(2, true);
        Due.is("not by all", x.round(0), -1);
        Due.is("not by all", x.round(1), -1);
        Due.is("but to some", x.rounds(15, 1), 3);
        Due.is("no inn", new KeyInn().rounds(0, 0), -2);
    }

    private static void loops() {
        loop("key 0 1;key 1 2;key 2 0;", 1);
        loop("key 0 1;key 0 1;", 1);
        loop("key 0 1;key 0 1;key 0 1;", 0);
        loop("key 0 1;key 1 2;", 0);
        loop("key 0 1;key 0 2;key 0 3;", 0);
        loop("key 0 1;key 1 2;key 2 0;key 0 3;", 0);
        loop("key 0 1;key 1 2;key 2 0 3;", 0);
        loop("key 0 1 2;key 0 1 2;", 0);
        loop("key 0 1;key 2 3;key 1 0;key 3 2;", 2);
        loop("key 0 1;key 2 3;key 1 2;key 3 0;key 4 5;key 5 6;key 6 4;", 2);
        loop("", 0);
        KeyInn x = Due.inn("inn rooms 4 nights 1;key 0 1;key 1 2;key 2 0;key 1 3;");
        Due.is("one too many", x.loops(), 0);
        x.lose(3, true);
        Due.is("it is lost", x.loops(), 1);
        x.change(1);
        x.lose(3, false);
        Due.is("as it is told", x.loops(), 0);
        x.lose(3, true);
        x.lose(0, true);
        Due.is("one of the ring is lost", x.loops(), 0);
        Due.is("no inn", new KeyInn().loops(), -2);
    }

    private static void loop(String keys, int due) {
        Due.is("loops of " + keys, Due.inn("inn rooms 8 nights 1;" + keys).loops(), due);
    }

    private static void leaving() {
        // Each of 1, 2, 3 can come to 0 and is not trusted; 0 can come to none of them.
        KeyInn x = Due.inn("inn rooms 8 nights 2;key 0 1;key 0 2;key 0 3;key 0 4;" + GUEST.repeat(4)
                + "wants 0 0;wants 1 2;wants 2 3;wants 3 4;");
        x.book(0, 0, 0);
        x.book(1, 2, 1);
        Due.is("one or the other", x.leave(0, 0), 1);
        Due.is("the least set", x.leave(0, 1), 1);
        x.book(2, 3, 2);
        x.book(3, 4, 3);
        Due.is("one", x.leave(1, 0), 1);
        Due.is("which", x.leave(1, 1), 1);
        x.off(0);
        Due.is("nobody", x.leave(1, 0), 0);
        Due.is("nobody", x.leave(1, 1), 0);
        Due.is("leave(2, 0)", x.leave(2, 0), -2);
        Due.is("leave(0, 2)", x.leave(0, 2), -2);
        Due.is("leave(0, -1)", x.leave(0, -1), -2);
        x = Due.inn("inn rooms 6 nights 1;key 0 1;key 0 1;key 2 3;key 2 3;guest from 0 to 0 luggage 1;".concat(
                "guest from 0 to 0 luggage 1;".repeat(3)));
        x.book(0, 0, 0);
        x.book(3, 1, 1);
        x.book(1, 2, 2);
        x.book(2, 3, 3);
        Due.is("two pairs of two", x.leave(0, 0), 2);
        Due.is("0 and 1", x.leave(0, 1), 3);
    }

    private static void shutting() {
        KeyInn x = Due.inn("inn rooms 6 nights 3;key 0 1;key 2 3;key 4 5;door 3 to 4;door 5 to 1;door 1 to 2;" + GUEST.repeat(3));
        x.book(0, 0, 0);
        x.book(1, 2, 1);
        x.book(2, 4, 2);
        // To room 2 come 0 and 2 (by 1 and 5), to room 4 comes 1 (by 3), to room 0 nobody.
        Due.is("pairs", x.unsafe(0, 1), 3);
        Due.is("shut(0, 0)", x.shut(0, 0), 2);
        Due.is("shut(0, 1)", x.shut(0, 1), 1);
        Due.is("nobody sleeps", x.shut(2, 0), 0);
        Due.is("nobody sleeps", x.shut(2, 1), 0);
        Due.is("all as it was", x.unsafe(0, 1), 3);
        Due.is("reach as it was", x.reach(1), 39);
        Due.is("shut(3, 0)", x.shut(3, 0), -2);
        Due.is("shut(0, 2)", x.shut(0, 2), -2);
        Due.is("shut(0, -1)", x.shut(0, -1), -2);
        x = Due.inn("inn rooms 4 nights 1;key 0 1;key 2 3;door 1 to 2;door 2 to 1;guest from 0 to 0 luggage 1;"
                + "guest from 0 to 0 luggage 1;");
        x.book(0, 0, 0);
        x.book(1, 2, 1);
        Due.is("one of two doors", x.shut(0, 1), 1);
        Due.is("the first of several", x.shut(0, 0), 0);
        x = Due.inn("inn rooms 2 nights 1;");
        Due.is("no doors", x.shut(0, 0), -1);
        Due.is("no doors", x.shut(0, 1), -1);
    }

    private static void swapping() {
        KeyInn x = Due.inn("inn rooms 4 nights 3;key 0 1;key 1 2;key 3 2;" + GUEST.repeat(3)
                + "guest from 0 to 2 luggage 1;trust 0 1;wants 2 2 3;");
        x.book(0, 1, 0);
        x.book(1, 2, 1);
        Due.is("pairs", x.unsafe(0, 1), 0);
        // Guest 1 then sleeps in 1, to which key 1 of guest 0 comes.
        Due.is("swap(0, 1, 0)", x.swap(0, 1, 0), 1);
        Due.is("swap(1, 0, 1)", x.swap(1, 0, 1), 1);
        Due.is("not their night", x.swap(0, 1, 2), 0);
        Due.is("in thought", x.guest(0, 0), 1);
        Due.is("one twice", x.swap(0, 0, 0), -2);
        Due.is("no such guest", x.swap(0, 4, 0), -2);
        Due.is("no such guest", x.swap(-1, 0, 0), -2);
        Due.is("no such night", x.swap(0, 1, 3), -2);
        Due.is("not booked", x.swap(0, 2, 0), -3);
        x.book(2, 3, 2);
        Due.is("does not want", x.swap(0, 2, 0), -5);
        Due.is("does not want", x.swap(2, 0, 0), -5);
        // Guest 2 then comes to room 1 of guest 0, and guest 1 to room 2 of guest 2.
        Due.is("wants", x.swap(2, 1, 0), 2);
        x.off(2);
        x.book(3, 3, 2);
        Due.is("other nights", x.swap(0, 3, 0), -3);
    }

    private static void visitors() {
        KeyInn x = Due.inn("inn rooms 4 nights 3;key 0 1;key 1 2;door 2 to 3;" + GUEST.repeat(2));
        x.book(0, 0, 0);
        x.book(1, 2, 1);
        Due.is("visitors(0, 0)", x.visitors(0, 0), 1);
        Due.is("visitors(1, 1)", x.visitors(1, 1), 3);
        Due.is("visitors(3, 1)", x.visitors(3, 1), 2);
        Due.is("visitors(3, 2)", x.visitors(3, 2), 0);
        Due.is("visitors(4, 0)", x.visitors(4, 0), -2);
        Due.is("visitors(0, 3)", x.visitors(0, 3), -2);
        Due.is("visitors(-1, 0)", x.visitors(-1, 0), -2);
    }

    private static void calm() {
        KeyInn x = Due.inn("inn rooms 4 nights 9;key 0 1;key 0 1;key 2 3;guest from 2 to 6 luggage 1;"
                + "guest from 3 to 3 luggage 1;guest from 8 to 8 luggage 1;");
        Due.is("nobody", x.calm(), 9);
        x.book(0, 0, 0);
        x.book(1, 1, 1);
        Due.is("3 is not calm", x.calm(), 5);
        x.book(2, 2, 2);
        x.lose(2, true);
        Due.is("nor is 8", x.calm(), 4);
        x.lose(0, true);
        Due.is("nor 2 to 6", x.calm(), 2);
        Due.is("no inn", new KeyInn().calm(), -2);
        x = Due.inn("inn rooms 2 nights 1;key 0 1;guest from 0 to 0 luggage 1;");
        x.book(0, 0, 0);
        x.lose(0, true);
        Due.is("no night", x.calm(), 0);
    }
}
