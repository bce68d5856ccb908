/** Edges of promises 28 to 34: keys that are lost, who is bare, locks that are changed. */
final class LostEdges {
    private static final String FULL = KeyEdges.FULL;

    private LostEdges() {
    }

    /** Guest 0 sleeps in room 0 (key 0: 0 1) on nights 1 .. 2 of four, guest 1 in 3 (key 1: 2 3) on 2; a door joins 1 to 2. */
    private static KeyInn small() {
        KeyInn x = Due.inn("inn rooms 5 nights 4;key 0 1;key 2 3;key 0 4;door 1 to 2;guest from 1 to 2 luggage 1;guest from 2 to 2 luggage 1;");
        Due.is("book 0", x.book(0, 0, 0), 0);
        Due.is("book 1", x.book(1, 3, 1), 0);
        return x;
    }

    private static KeyInn allLost() {
        KeyInn x = Due.inn(FULL);
        x.book(0, 0, 0);
        x.book(8, 9, 9);
        for (int k = 0; k < 12; k++) {
            Due.is("lose " + k, x.lose(k, true), 0);
        }
        return x;
    }

    // ---- lose: "-2: there is none such; -5: it is so already. (One that is somebody's stays his, too.)" ----

    static void p28SuchKeys() {
        KeyInn x = Due.inn(FULL);
        Due.bounds("lost", k -> x.lose(k, true), 0, 11);
        Due.bounds("found", k -> x.lose(k, false), 0, 11);
        Due.is("none is lost", x.count(8), 0);
        Due.is("no keys", Due.inn(TextEdges.HEAD).lose(0, true), -2);
        Due.is("no keys", Due.inn(TextEdges.HEAD).lose(0, false), -2);
    }

    static void p28LostAlready() {
        KeyInn x = small();
        x.lose(1, true);
        Due.is("once more", x.lose(1, true), -5);
        Due.is("it stays lost", x.count(8), 2);
        Due.is("found", x.lose(1, false), 0);
    }

    static void p28FoundAlready() {
        KeyInn x = small();
        Due.is("never lost", x.lose(1, false), -5);
        Due.is("it is not lost", x.count(8), 0);
        x.lose(1, true);
        x.lose(1, false);
        Due.is("found before", x.lose(1, false), -5);
        Due.is("none is", x.count(8), 0);
    }

    static void p28AllAndNone() {
        KeyInn x = allLost();
        Due.is("all", x.count(8), 4095);
        for (int k = 0; k < 12; k++) {
            Due.is("find " + k, x.lose(k, false), 0);
        }
        Due.is("none", x.count(8), 0);
    }

    static void p28StaysHis() {
        KeyInn x = small();
        x.lose(0, true);
        Due.is("booked", x.count(7), 3);
        Due.is("his key", x.guest(0, 1), 0);
        Due.is("whose", x.key(0, 11), 0);
        Due.is("off", x.off(0), 0);
        Due.is("nobody's to be", x.book(0, 0, 0), -5);
    }

    // ---- open: "-2: there is no INN" ----

    static void p29NoneAndAll() {
        Due.is("no key is lost", small().open(), 0);
        Due.is("no keys", Due.inn(TextEdges.HEAD).open(), 0);
        Due.is("all are", allLost().open(), 1023);
        Due.is("no inn", new KeyInn().open(), -2);
    }

    static void p29ThroughDoors() {
        KeyInn x = small();
        x.lose(0, true);
        Due.is("0, 1 and 2", x.open(), 7);
        x.change(1);
        Due.is("0 alone", x.open(), 1);
        x.change(0);
        Due.is("none", x.open(), 0);
    }

    // ---- bare ----

    static void p30HisNights() {
        KeyInn x = small();
        x.lose(2, true);
        int[] due = {0, 1, 1, 0};
        for (int n = 0; n < 4; n++) {
            Due.is("night " + n, x.bare(n), due[n]);
        }
        x.lose(1, true);
        Due.is("both", x.bare(2), 3);
        x.off(0);
        Due.is("who is not booked is not bare", x.bare(2), 2);
    }

    static void p30SuchNights() {
        KeyInn x = allLost();
        Due.bounds("bare", x::bare, 0, 19);
        Due.is("the first and the last guest", x.bare(19), 257);
        Due.is("nobody", Due.inn(FULL).bare(0), 0);
    }

    // ---- harm: "How many would, if a KEY were LOST, too. -2 likewise, no such KEY." ----

    static void p31SuchKeysNights() {
        KeyInn x = Due.inn(FULL);
        Due.bounds("a key", k -> x.harm(k, 0), 0, 11);
        Due.bounds("a night", n -> x.harm(11, n), 0, 19);
        Due.is("no keys", Due.inn(TextEdges.HEAD).harm(0, 0), -2);
    }

    static void p31None() {
        KeyInn x = small();
        Due.is("nobody sleeps there", x.harm(0, 0), 0);
        Due.is("it comes to nobody", x.harm(1, 1), 0);
        Due.is("it stays as it is", x.count(8), 0);
    }

    static void p31LostAlready() {
        KeyInn x = small();
        x.lose(2, true);
        Due.is("as many as now", x.harm(2, 2), 1);
        Due.is("one more", x.harm(1, 2), 2);
        Due.is("it is not lost", x.count(8), 4);
    }

    static void p31All() {
        Due.is("nine", BookEdges.allTogether("").harm(11, 19), 9);
    }

    // ---- worst: "the first of several; NONE: there are no KEYS. -2 likewise" ----

    static void p32NoKeys() {
        Due.is("none", Due.inn(TextEdges.HEAD).worst(0), -1);
        Due.is("no such night", Due.inn(TextEdges.HEAD).worst(4), -2);
    }

    static void p32FirstOfSeveral() {
        Due.is("nobody sleeps there", small().worst(0), 0);
        Due.is("0 and 2 are as bad", small().worst(1), 0);
        Due.is("all are as bad", BookEdges.allTogether("").worst(0), 0);
    }

    static void p32TheLast() {
        KeyInn x = Due.inn("inn rooms 10 nights 1;" + "key 0 1;".repeat(11) + "key 8 9;guest from 0 to 0 luggage 1;");
        x.book(0, 8, 11);
        Due.is("key 11", x.worst(0), 11);
    }

    static void p32SuchNights() {
        Due.bounds("worst", Due.inn(FULL)::worst, 0, 19);
    }

    // ---- change: "KEYS that are LOST open it no more: how many did. -2: there is none such" ----

    static void p33NoneLost() {
        KeyInn x = small();
        Due.is("none", x.change(0), 0);
        Due.is("key 0", x.key(0, 0), 3);
        Due.is("key 2", x.key(2, 0), 17);
    }

    static void p33LostOnesAlone() {
        KeyInn x = small();
        x.lose(0, true);
        Due.is("one of two", x.change(0), 1);
        Due.is("key 0", x.key(0, 0), 2);
        Due.is("key 2, not lost", x.key(2, 0), 17);
        Due.is("once more", x.change(0), 0);
    }

    static void p33AllTwelve() {
        KeyInn x = Due.inn("inn rooms 2 nights 1;" + "key 0 1;".repeat(12));
        for (int k = 0; k < 12; k++) {
            x.lose(k, true);
        }
        Due.is("twelve", x.change(1), 12);
        Due.is("the first", x.key(0, 0), 1);
        Due.is("the last", x.key(11, 0), 1);
    }

    static void p33LostLater() {
        KeyInn x = small();
        x.change(0);
        x.lose(0, true);
        Due.is("it opens as before", x.key(0, 0), 3);
        x.change(0);
        x.lose(0, false);
        Due.is("found, it opens no more", x.key(0, 0), 2);
    }

    static void p33SuchRooms() {
        Due.bounds("change", Due.inn(FULL)::change, 0, 9);
        Due.bounds("change", Due.inn("inn rooms 2 nights 1;")::change, 0, 1);
        KeyInn x = Due.inn("inn rooms 3 nights 1;key 0 2;");
        x.lose(0, true);
        Due.absent("change", x::change, -1, 3, 32, 34, Integer.MIN_VALUE);
        Due.is("it opens as before", x.key(0, 0), 5);
    }

    // ---- fewest: "how many (what 0), which (what 1: the least set, as bits). -2: there are none such, no INN" ----

    static void p34None() {
        KeyInn x = small();
        Due.is("no key is lost", x.fewest(2, 0), 0);
        Due.is("no key is lost", x.fewest(2, 1), 0);
        x.lose(0, true);
        Due.is("nobody sleeps there", x.fewest(0, 0), 0);
        Due.is("nobody sleeps there", x.fewest(0, 1), 0);
    }

    static void p34AllRooms() {
        KeyInn x = allLost();
        Due.is("all ten", x.fewest(0, 0), 10);
        Due.is("all ten", x.fewest(0, 1), 1023);
        x.off(8);
        Due.is("9 needs none", x.fewest(19, 0), 9);
        Due.is("9 needs none", x.fewest(19, 1), 511);
        x.off(0);
        Due.is("nobody", x.fewest(19, 1), 0);
    }

    static void p34ItIsEnough() {
        KeyInn x = allLost();
        x.off(8);
        int locks = x.fewest(3, 1);
        for (int r = 0; r < 10; r++) {
            if ((locks >> r & 1) != 0) {
                Due.is("bare as long as room " + r + " is not changed", x.bare(3), 1);
                x.change(r);
            }
        }
        Due.is("then nobody", x.bare(3), 0);
        Due.is("none to be changed", x.fewest(3, 0), 0);
    }

    static void p34NothingIsChanged() {
        KeyInn x = small();
        x.lose(0, true);
        Due.is("which", x.fewest(1, 1), 1);
        Due.is("which", x.fewest(2, 1), 1);
        Due.is("open as before", x.open(), 7);
    }

    static void p34SuchNightsWhats() {
        KeyInn x = allLost();
        Due.bounds("a night", n -> x.fewest(n, 0), 0, 19);
        Due.bounds("a night", n -> x.fewest(n, 1), 0, 19);
        Due.bounds("what", what -> x.fewest(0, what), 0, 1);
    }
}
