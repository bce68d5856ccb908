/** Edges of promises 35 to 39: thefts, who was away, who can have done them. */
final class TheftEdges {
    private static final String FULL = KeyEdges.FULL;

    private TheftEdges() {
    }

    /** Guest 0 sleeps in room 0 (key 0: 0 1) on nights 1 .. 2 of four, guest 1 in room 1 (key 1: 1 2) on night 2. */
    private static KeyInn small() {
        KeyInn x = Due.inn("inn rooms 3 nights 4;key 0 1;key 1 2;guest from 1 to 2 luggage 1;guest from 2 to 2 luggage 1;");
        Due.is("book 0", x.book(0, 0, 0), 0);
        Due.is("book 1", x.book(1, 1, 1), 0);
        return x;
    }

    // ---- theft: "-2: there are none such; -3: there are 20" ----

    static void p35UpToTwenty() {
        KeyInn x = Due.inn(FULL);
        for (int i = 1; i <= 20; i++) {
            Due.is("theft " + i, x.theft(9, 19), i);
        }
        Due.is("one more", x.theft(0, 0), -3);
        Due.is("thefts", x.count(9), 20);
        Due.is("once more", x.theft(0, 0), -3);
    }

    static void p35AbsentAheadOfTwenty() {
        KeyInn x = Due.inn(FULL);
        for (int i = 0; i < 20; i++) {
            x.theft(0, 0);
        }
        Due.is("no such room", x.theft(10, 0), -2);
        Due.is("no such night", x.theft(0, 20), -2);
    }

    static void p35SuchRoomsNights() {
        KeyInn x = Due.inn(FULL);
        Due.bounds("a room", r -> x.theft(r, 19), 0, 9);
        Due.bounds("a night", n -> x.theft(9, n), 0, 19);
        Due.is("those that are", x.count(9), 4);
    }

    static void p35TheSameTwice() {
        KeyInn x = small();
        Due.is("one", x.theft(1, 1), 1);
        Due.is("the same", x.theft(1, 1), 2);
        Due.is("both count", x.count(9), 2);
    }

    // ---- away: "(all of it): 0. -2: there are none such; -5: he was so already" ----

    static void p36SuchGuestsNights() {
        KeyInn x = Due.inn(FULL);
        Due.bounds("a guest", g -> x.away(g, 0), 0, 8);
        Due.bounds("a night", n -> x.away(4, n), 0, 19);
        Due.is("no guests", Due.inn(TextEdges.HEAD).away(0, 0), -2);
    }

    static void p36Already() {
        KeyInn x = Due.inn(FULL);
        Due.is("away", x.away(8, 19), 0);
        Due.is("already", x.away(8, 19), -5);
        Due.is("still so", x.away(8, 19), -5);
        Due.is("another night", x.away(8, 18), 0);
        Due.is("another guest", x.away(7, 19), 0);
    }

    static void p36EachNight() {
        KeyInn x = Due.inn(FULL);
        for (int n = 0; n < 20; n++) {
            Due.is("night " + n, x.away(0, n), 0);
        }
        for (int n = 0; n < 20; n++) {
            Due.is("night " + n, x.away(0, n), -5);
        }
    }

    static void p36NotHisNight() {
        KeyInn x = small();
        Due.is("ahead of his nights", x.away(0, 0), 0);
        Due.is("behind", x.away(0, 3), 0);
        Due.is("not booked", Due.inn(FULL).away(0, 0), 0);
    }

    // ---- could: "-2: there is none such" ----

    static void p37SuchThefts() {
        KeyInn x = small();
        Due.is("of none", x.could(0), -2);
        x.theft(1, 1);
        Due.bounds("could of one", x::could, 0, 0);
        for (int i = 1; i < 20; i++) {
            x.theft(1, 1);
        }
        Due.bounds("could of twenty", x::could, 0, 19);
    }

    static void p37HisNights() {
        KeyInn x = small();
        int[] due = {0, 1, 1, 0};
        for (int n = 0; n < 4; n++) {
            x.theft(1, n);
            Due.is("night " + n, x.could(n), due[n]);
        }
    }

    static void p37WasAway() {
        KeyInn x = small();
        x.theft(1, 1);
        x.theft(1, 2);
        x.away(0, 1);
        Due.is("away then", x.could(0), 0);
        Due.is("not the next night", x.could(1), 1);
    }

    static void p37SleepsInIt() {
        KeyInn x = small();
        x.theft(0, 1);
        Due.is("he sleeps in it", x.could(0), 0);
        x.theft(1, 2);
        Due.is("1 sleeps in it, 0 comes there", x.could(1), 1);
        x.theft(2, 2);
        Due.is("1 comes there", x.could(2), 2);
    }

    static void p37ByBookingsAsTheyAre() {
        KeyInn x = small();
        x.theft(2, 2);
        x.off(1);
        Due.is("nobody", x.could(0), 0);
        x.book(1, 2, 1);
        Due.is("he sleeps in it now", x.could(0), 0);
        x.off(1);
        x.book(1, 1, 1);
        Due.is("again", x.could(0), 2);
    }

    static void p37AllOthers() {
        KeyInn x = BookEdges.allTogether("");
        x.theft(8, 19);
        Due.is("all but the last", x.could(0), 255);
        x.theft(0, 0);
        Due.is("all but the first", x.could(1), 510);
        x.theft(9, 0);
        Due.is("by key 8 alone", x.could(2), 256);
    }

    // ---- all: "all GUESTS without any. -2: there is no INN" ----

    static void p38WithoutAny() {
        Due.is("nine", Due.inn(FULL).all(), 511);
        Due.is("no guests", Due.inn(TextEdges.HEAD).all(), 0);
        Due.is("no inn", new KeyInn().all(), -2);
    }

    static void p38OneAndTwo() {
        KeyInn x = BookEdges.allTogether("");
        x.theft(8, 19);
        Due.is("all but the last", x.all(), 255);
        x.theft(0, 0);
        Due.is("and the first", x.all(), 254);
        x.theft(9, 0);
        Due.is("nobody", x.all(), 0);
    }

    static void p38TheTwentieth() {
        KeyInn x = BookEdges.allTogether("");
        for (int i = 0; i < 19; i++) {
            x.theft(0, 0);
        }
        Due.is("all but the first", x.all(), 510);
        x.theft(9, 0);
        Due.is("the twentieth counts", x.all(), 256);
    }

    // ---- gang: "NONE: not by all of them; -2: there is no such what, no INN" ----

    static void p39WithoutAny() {
        KeyInn x = small();
        Due.is("how many", x.gang(0), 0);
        Due.is("which", x.gang(1), 0);
        KeyInn y = Due.inn(TextEdges.HEAD);
        Due.is("no guests: how many", y.gang(0), 0);
        Due.is("no guests: which", y.gang(1), 0);
    }

    static void p39NotByAll() {
        KeyInn x = small();
        x.theft(1, 1);
        x.theft(0, 1);
        Due.is("how many", x.gang(0), -1);
        Due.is("which", x.gang(1), -1);
        KeyInn y = Due.inn(TextEdges.HEAD);
        y.theft(0, 0);
        Due.is("no guests", y.gang(0), -1);
        Due.is("no guests", y.gang(1), -1);
    }

    /** Guest g comes to rooms g and g + 1 and sleeps in g, so room g + 1 was his alone to rob. */
    static void p39AllNine() {
        KeyInn x = Due.inn("inn rooms 10 nights 1;" + "key 0 1;key 1 2;key 2 3;key 3 4;key 4 5;key 5 6;key 6 7;key 7 8;key 8 9;"
                + "guest from 0 to 0 luggage 1;".repeat(9));
        for (int g = 0; g < 9; g++) {
            x.book(g, g, g);
            x.theft(g + 1, 0);
            Due.is("how many", x.gang(0), g + 1);
            Due.is("which", x.gang(1), (2 << g) - 1);
        }
    }

    static void p39TheLeastSet() {
        KeyInn x = BookEdges.allTogether("");
        x.theft(0, 0);
        Due.is("not the first: he sleeps there", x.gang(1), 2);
        x.theft(1, 0);
        Due.is("the third", x.gang(1), 4);
        Due.is("one", x.gang(0), 1);
    }

    static void p39SuchWhats() {
        KeyInn x = small();
        Due.bounds("what", x::gang, 0, 1);
        Due.bounds("what, without guests", Due.inn(TextEdges.HEAD)::gang, 0, 1);
        Due.is("no inn", new KeyInn().gang(0), -2);
        Due.is("no inn", new KeyInn().gang(1), -2);
    }
}
