/** Promises 35 to 39: thefts, who was away, who can have done them. */
public final class TheftTest {
    /** Key 0 opens 0 1, key 1: 2 3, key 2: 4 3, key 3: 5 1 3. */
    private static final String TEXT = "inn rooms 6 nights 3;key 0 1;key 2 3;key 4 3;key 5 1 3;"
            + "guest from 0 to 1 luggage 1;guest from 0 to 2 luggage 2;guest from 1 to 2 luggage 4;guest from 1 to 1 luggage 0;";

    public static void main(String[] args) {
        suspects();
        gangs();
        edges();
        Due.finish();
    }

    private static KeyInn booked() {
        KeyInn x = Due.inn(TEXT);
        x.book(0, 0, 0);
        x.book(1, 2, 1);
        x.book(2, 4, 2);
        x.book(3, 5, 3);
        Due.is("all are booked", x.count(7), 15);
        return x;
    }

    private static void suspects() {
        KeyInn x = booked();
        Due.is("all without thefts", x.all(), 15);
        Due.is("gang without thefts", x.gang(0), 0);
        Due.is("gang without thefts", x.gang(1), 0);
        Due.is("theft(3, 1)", x.theft(3, 1), 1);
        Due.is("theft(3, 0)", x.theft(3, 0), 2);
        Due.is("theft(1, 1)", x.theft(1, 1), 3);
        Due.is("could(0)", x.could(0), 14);
        Due.is("could(1)", x.could(1), 2);
        Due.is("could(2)", x.could(2), 9);
        Due.is("could(3)", x.could(3), -2);
        Due.is("could(-1)", x.could(-1), -2);
        Due.is("all()", x.all(), 0);
        Due.is("away(2, 1)", x.away(2, 1), 0);
        Due.is("away twice", x.away(2, 1), -5);
        Due.is("could(0) without him", x.could(0), 10);
        Due.is("theft(4, 1)", x.theft(4, 1), 4);
        Due.is("who sleeps in it", x.could(3), 0);
        x.off(1);
        Due.is("by bookings now", x.could(0), 8);
        Due.is("by bookings now", x.could(1), 0);
        Due.is("thefts", x.count(9), 4);
    }

    private static void gangs() {
        KeyInn x = booked();
        x.theft(3, 1);
        Due.is("one of three", x.gang(0), 1);
        Due.is("the least", x.gang(1), 2);
        Due.is("all()", x.all(), 14);
        x.theft(1, 1);
        Due.is("3 alone", x.gang(1), 8);
        Due.is("all()", x.all(), 8);
        x.theft(3, 2);
        // {1, 2}, {0, 3}, {1, 2, 3}: two of them, the least 0 and 1.
        Due.is("two", x.gang(0), 2);
        Due.is("0 and 1", x.gang(1), 3);
        x.away(1, 2);
        Due.is("0 and 2", x.gang(1), 5);
        x.away(2, 2);
        Due.is("not by all", x.gang(0), -1);
        Due.is("not by all", x.gang(1), -1);
    }

    private static void edges() {
        KeyInn x = booked();
        for (int i = 1; i <= 20; i++) {
            Due.is("theft " + i, x.theft(5, 2), i);
        }
        Due.is("theft 21", x.theft(5, 2), -3);
        Due.is("no such room", x.theft(6, 2), -2);
        Due.is("no such night", x.theft(5, 3), -2);
        Due.is("thefts stay", x.count(9), 20);
        Due.is("could(19)", x.could(19), 0);
        Due.is("could(20)", x.could(20), -2);
        Due.is("away(4, 0)", x.away(4, 0), -2);
        Due.is("away(0, 3)", x.away(0, 3), -2);
        Due.is("away(-1, 0)", x.away(-1, 0), -2);
        Due.is("away, not one of his nights", x.away(3, 0), 0);
        Due.is("gang(2)", x.gang(2), -2);
        Due.is("gang(-1)", x.gang(-1), -2);
        KeyInn y = Due.inn("inn rooms 2 nights 1;key 0 1;guest from 0 to 0 luggage 0;");
        y.theft(1, 0);
        Due.is("not booked", y.could(0), 0);
        y.book(0, 0, 0);
        Due.is("booked", y.could(0), 1);
    }
}
