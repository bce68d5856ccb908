/** Edges of promises 11 to 20: bookings, who comes where, fears, and which bookings fit. */
final class BookEdges {
    private static final String FULL = KeyEdges.FULL;

    private BookEdges() {
    }

    /** Rooms 0 .. 3, keys 0 1, 1 2, 2 3; guest 0 has nights 2 .. 4, guest 1 wants rooms 1 and 2. */
    private static KeyInn small(int from, int to) {
        return Due.inn("inn rooms 4 nights 7;key 0 1;key 1 2;key 2 3;guest from 2 to 4 luggage 1;guest from " + from + " to " + to
                + " luggage 1;wants 1 1 2;");
    }

    // ---- book: "-2: there are none such; -3: he is BOOKED; -5: that can't be (II)" ----

    static void p11SuchGuestsRoomsKeys() {
        KeyInn x = Due.inn(FULL);
        Due.bounds("a guest", g -> x.book(g, 5, 0), 0, 8);
        Due.bounds("a room", r -> x.book(0, r, r == 9 ? 2 : 5), 0, 9);
        Due.bounds("a key", k -> x.book(0, 5, k), 0, 11);
        Due.is("nobody is booked", x.count(7), 0);
    }

    static void p11OfNone() {
        Due.is("no guests", Due.inn("inn rooms 2 nights 1;key 0 1;").book(0, 0, 0), -2);
        Due.is("no keys", Due.inn("inn rooms 2 nights 1;guest from 0 to 0 luggage 1;").book(0, 0, 0), -2);
    }

    static void p11LeastAndGreatest() {
        KeyInn x = Due.inn(FULL);
        Due.is("the first", x.book(0, 0, 0), 0);
        Due.is("the last", x.book(8, 9, 9), 0);
        Due.is("the last key", x.book(4, 2, 11), 0);
        Due.is("booked", x.count(7), 1 | 16 | 256);
    }

    static void p11AbsentAheadOfBooked() {
        KeyInn x = small(2, 4);
        x.book(0, 0, 0);
        Due.is("no such room", x.book(0, 4, 0), -2);
        Due.is("no such key", x.book(0, 0, 3), -2);
        Due.is("no such guest", x.book(2, 0, 0), -2);
    }

    static void p11IsBooked() {
        KeyInn x = small(2, 4);
        x.book(0, 0, 0);
        Due.is("the same", x.book(0, 0, 0), -3);
        Due.is("another one", x.book(0, 3, 2), -3);
        Due.is("one that can't be", x.book(0, 3, 0), -3);
        Due.is("his room stays", x.guest(0, 0), 0);
        Due.is("his key stays", x.guest(0, 1), 0);
    }

    private static void cantBe(String why, KeyInn x, int guest, int room, int key) {
        int before = x.count(7);
        Due.is(why, x.book(guest, room, key), -5);
        Due.is(why + ": booked", x.count(7), before);
        Due.is(why + ": his room", x.guest(guest, 0), -1);
        Due.is(why + ": his key", x.guest(guest, 1), -1);
    }

    static void p11DoesNotWant() {
        cantBe("room 3", small(2, 4), 1, 3, 2);
        cantBe("room 0", small(2, 4), 1, 0, 0);
        Due.is("room 1", small(2, 4).book(1, 1, 1), 0);
    }

    static void p11KeyDoesNotOpen() {
        cantBe("room 3 by key 1", small(2, 4), 0, 3, 1);
        cantBe("room 0 by key 1", small(2, 4), 0, 0, 1);
        KeyInn x = Due.inn("inn rooms 3 nights 1;key 0 1;door 1 to 2;guest from 0 to 0 luggage 1;");
        cantBe("a room in reach", x, 0, 2, 0);
    }

    static void p11KeyOpensNow() {
        KeyInn x = small(2, 4);
        x.lose(0, true);
        x.change(0);
        x.lose(0, false);
        cantBe("no more", x, 0, 0, 0);
        Due.is("the other room", x.book(0, 1, 0), 0);
    }

    static void p11KeyIsLost() {
        KeyInn x = small(2, 4);
        x.lose(0, true);
        cantBe("lost", x, 0, 0, 0);
        x.lose(0, false);
        Due.is("found", x.book(0, 0, 0), 0);
    }

    /** Guest 0 has the room on nights 2 .. 4: one night in common is enough. */
    static void p11RoomOfAnother() {
        int[][] common = {{2, 4}, {0, 2}, {4, 6}, {3, 3}, {0, 6}};
        for (int[] nights : common) {
            KeyInn x = small(nights[0], nights[1]);
            x.book(0, 1, 0);
            cantBe("from " + nights[0] + " to " + nights[1], x, 1, 1, 1);
        }
    }

    static void p11KeyOfAnother() {
        int[][] common = {{2, 4}, {0, 2}, {4, 6}, {3, 3}, {0, 6}};
        for (int[] nights : common) {
            KeyInn x = small(nights[0], nights[1]);
            x.book(0, 1, 1);
            cantBe("from " + nights[0] + " to " + nights[1], x, 1, 2, 1);
        }
    }

    static void p11NightsBesideAnother() {
        int[][] beside = {{0, 1}, {1, 1}, {5, 5}, {5, 6}};
        for (int[] nights : beside) {
            KeyInn x = small(nights[0], nights[1]);
            x.book(0, 1, 1);
            Due.is("from " + nights[0] + " to " + nights[1], x.book(1, 1, 1), 0);
            Due.is("both", x.count(7), 3);
        }
    }

    static void p11BehindOff() {
        KeyInn x = small(2, 4);
        x.book(0, 1, 1);
        cantBe("taken", x, 1, 1, 1);
        x.off(0);
        Due.is("free", x.book(1, 1, 1), 0);
    }

    static void p11FearsDoNotMatter() {
        KeyInn x = small(2, 4);
        x.book(0, 1, 0);
        Due.is("book", x.book(1, 2, 1), 0);
        Due.is("he fears", x.fears(0, 2), 2);
    }

    // ---- off: "100 times the ROOM and the KEY that he had; NONE: he was not" ----

    static void p12LeastAndGreatest() {
        KeyInn x = Due.inn(FULL);
        x.book(0, 0, 0);
        x.book(1, 9, 9);
        x.book(8, 2, 11);
        Due.is("room 0, key 0", x.off(0), 0);
        Due.is("room 9, key 9", x.off(1), 909);
        Due.is("room 2, key 11", x.off(8), 211);
        Due.is("nobody is booked", x.count(7), 0);
    }

    static void p12WasNot() {
        KeyInn x = Due.inn(FULL);
        Due.is("never", x.off(0), -1);
        x.book(0, 0, 0);
        Due.is("another one", x.off(1), -1);
        Due.is("he stays", x.count(7), 1);
        x.off(0);
        Due.is("no more", x.off(0), -1);
    }

    static void p12SuchGuests() {
        KeyInn x = Due.inn(FULL);
        Due.bounds("off", x::off, 0, 8);
        x.book(4, 4, 4);
        Due.absent("off", x::off, -1, 9, 36, Integer.MAX_VALUE);
        Due.is("who is booked stays so", x.guest(4, 1), 4);
        Due.is("no guests", Due.inn(TextEdges.HEAD).off(0), -2);
    }

    // ---- comes: "0: he does not sleep there then. -2: there are none such." ----

    static void p13HisNights() {
        KeyInn x = small(5, 6);
        x.book(0, 1, 1);
        Due.is("ahead", x.comes(0, 1), 0);
        Due.is("first", x.comes(0, 2), 6);
        Due.is("last", x.comes(0, 4), 6);
        Due.is("behind", x.comes(0, 5), 0);
    }

    static void p13NotBooked() {
        KeyInn x = small(5, 6);
        Due.is("not", x.comes(0, 3), 0);
        x.book(0, 1, 1);
        x.off(0);
        Due.is("no more", x.comes(0, 3), 0);
    }

    static void p13SuchGuestsNights() {
        KeyInn x = Due.inn(FULL);
        Due.bounds("a guest", g -> x.comes(g, 0), 0, 8);
        Due.bounds("a night", n -> x.comes(8, n), 0, 19);
    }

    static void p13LostKeyOfHis() {
        KeyInn x = small(5, 6);
        x.book(0, 1, 1);
        x.lose(1, true);
        Due.is("lost", x.comes(0, 3), 6);
        x.change(1);
        x.change(2);
        Due.is("it opens nothing", x.comes(0, 3), 0);
    }

    // ---- fears ----

    static void p14CommonNights() {
        KeyInn x = small(4, 6);
        x.book(0, 1, 0);
        x.book(1, 2, 1);
        Due.is("ahead", x.fears(0, 3), 0);
        Due.is("the common one", x.fears(0, 4), 2);
        Due.is("behind", x.fears(0, 5), 0);
        Due.is("he can't come to 2", x.fears(1, 4), 0);
    }

    static void p14NotHimselfNorTrusted() {
        KeyInn x = Due.inn("inn rooms 2 nights 1;key 0 1;key 0 1;guest from 0 to 0 luggage 1;guest from 0 to 0 luggage 1;trust 0 1;");
        x.book(0, 0, 0);
        Due.is("alone", x.fears(0, 0), 0);
        x.book(1, 1, 1);
        Due.is("trusted", x.fears(0, 0), 0);
        Due.is("not trusted", x.fears(1, 0), 1);
        x.off(0);
        Due.is("who does not sleep there fears nobody", x.fears(0, 0), 0);
    }

    static void p14AllOthers() {
        KeyInn x = allTogether("");
        Due.is("the first", x.fears(0, 0), 510);
        Due.is("the last", x.fears(8, 19), 255);
    }

    static void p14SuchGuestsNights() {
        KeyInn x = Due.inn(FULL);
        Due.bounds("a guest", g -> x.fears(g, 19), 0, 8);
        Due.bounds("a night", n -> x.fears(0, n), 0, 19);
    }

    /** Nine guests, each in room and by key of his number: by the doors all come to rooms 0 .. 8. */
    static KeyInn allTogether(String more) {
        KeyInn x = Due.inn(FULL + more);
        for (int g = 0; g < 9; g++) {
            Due.is("book " + g, x.book(g, g, g), 0);
        }
        return x;
    }

    // ---- unsafe: "what 0: how many must fear somebody, 1: all pairs .., 2: the first such pair (.. NONE: none)" ----

    static void p15Nobody() {
        KeyInn x = Due.inn(FULL);
        Due.is("how many", x.unsafe(0, 0), 0);
        Due.is("pairs", x.unsafe(0, 1), 0);
        Due.is("the first", x.unsafe(0, 2), -1);
    }

    static void p15All() {
        KeyInn x = allTogether("");
        Due.is("how many", x.unsafe(19, 0), 9);
        Due.is("pairs", x.unsafe(19, 1), 72);
        Due.is("the first", x.unsafe(19, 2), 1);
    }

    static void p15TheLastPair() {
        StringBuilder trust = new StringBuilder();
        for (int g = 0; g < 9; g++) {
            trust.append("trust ").append(g);
            for (int h = 0; h < 9; h++) {
                trust.append(h == g || g == 8 && h == 7 ? "" : " " + h);
            }
            trust.append(';');
        }
        KeyInn x = allTogether(trust.toString());
        Due.is("how many", x.unsafe(0, 0), 1);
        Due.is("pairs", x.unsafe(0, 1), 1);
        Due.is("the first", x.unsafe(0, 2), 87);
    }

    static void p15SuchNightsWhats() {
        KeyInn x = allTogether("");
        for (int what = 0; what <= 2; what++) {
            int asked = what;
            Due.bounds("a night, what " + what, n -> x.unsafe(n, asked), 0, 19);
        }
        Due.bounds("what", what -> x.unsafe(0, what), 0, 2);
    }

    // ---- risk ----

    static void p16NoneAndAll() {
        Due.is("nobody sleeps there", Due.inn(FULL).risk(0), 0);
        Due.is("all fear", allTogether("").risk(19), 891);
    }

    static void p16ByStrangerAlone() {
        KeyInn x = small(2, 4);
        x.book(0, 1, 0);
        Due.is("nobody to be feared", x.risk(2), 0);
        x.lose(2, true);
        Due.is("he can't come there", x.risk(2), 0);
        x.lose(1, true);
        Due.is("he can", x.risk(2), 1);
        Due.is("his last night", x.risk(4), 1);
        Due.is("behind it", x.risk(5), 0);
        Due.is("ahead", x.risk(1), 0);
    }

    static void p16CountedOnce() {
        KeyInn x = allTogether("");
        x.lose(0, true);
        Due.is("by guests and a stranger", x.risk(0), 891);
    }

    static void p16NoLuggage() {
        KeyInn x = Due.inn("inn rooms 2 nights 1;key 0 1;guest from 0 to 0 luggage 0;");
        x.book(0, 0, 0);
        x.lose(0, true);
        Due.is("bare", x.bare(0), 1);
        Due.is("risk", x.risk(0), 0);
    }

    static void p16SuchNights() {
        Due.bounds("risk", Due.inn(FULL)::risk, 0, 19);
    }

    // ---- fits, first, give, still: "-2: there is no such GUEST; -3: he is BOOKED" ----

    static void p17NoneAndMost() {
        Due.is("no keys", Due.inn("inn rooms 2 nights 1;guest from 0 to 0 luggage 1;").fits(0), 0);
        KeyInn x = Due.inn("inn rooms 3 nights 1;" + "key 0 1 2;".repeat(12) + "guest from 0 to 0 luggage 1;");
        Due.is("all keys, all rooms", x.fits(0), 36);
        Due.is("two each", Due.inn(FULL).fits(8), 24);
    }

    static void p17OneNightInCommon() {
        for (int from = 0; from < 7; from++) {
            KeyInn x = small(from, from);
            x.book(0, 1, 0);
            // On a common night room 1 is taken and key 1 comes there: 202 alone is left.
            boolean common = from >= 2 && from <= 4;
            Due.is("night " + from, x.fits(1), common ? 1 : 4);
            Due.is("night " + from, x.first(1), common ? 202 : 100);
        }
    }

    static void p17NoPairMore() {
        // 0 and 1 fear one another already; 2 in rooms 2, 3 adds nothing, in room 4 he comes to 0.
        KeyInn x = Due.inn("inn rooms 5 nights 1;key 0 1;key 0 1;key 2 3;key 4 0;" + "guest from 0 to 0 luggage 1;".repeat(3));
        x.book(0, 0, 0);
        x.book(1, 1, 1);
        Due.is("pairs", x.unsafe(0, 1), 2);
        Due.is("fits", x.fits(2), 2);
        Due.is("first", x.first(2), 202);
    }

    static void p17LostKeys() {
        KeyInn x = Due.inn(FULL);
        for (int k = 0; k < 11; k++) {
            x.lose(k, true);
        }
        Due.is("the last key", x.fits(0), 2);
        x.lose(11, true);
        Due.is("none", x.fits(0), 0);
    }

    static void p17SuchGuests() {
        Due.bounds("fits", Due.inn(FULL)::fits, 0, 8);
        Due.is("no guests", Due.inn(TextEdges.HEAD).fits(0), -2);
    }

    static void p17IsBooked() {
        KeyInn x = Due.inn(FULL);
        x.book(8, 0, 0);
        Due.is("fits", x.fits(8), -3);
        x.off(8);
        Due.is("no more", x.fits(8), 24);
    }

    static void p18LeastAndGreatest() {
        KeyInn x = Due.inn(FULL + "wants 7 9;wants 8 1;");
        Due.is("room 0, key 0", x.first(0), 0);
        Due.is("room 9", x.first(7), 908);
        for (int k = 0; k < 11; k++) {
            x.lose(k, true);
        }
        Due.is("key 11", x.first(8), 111);
    }

    static void p18None() {
        Due.is("no keys", Due.inn("inn rooms 2 nights 1;guest from 0 to 0 luggage 1;").first(0), -1);
        KeyInn x = Due.inn("inn rooms 2 nights 1;key 0 1;" + "guest from 0 to 0 luggage 1;".repeat(2));
        x.book(0, 0, 0);
        Due.is("the key is taken", x.first(1), -1);
        x.off(0);
        Due.is("free again", x.first(1), 0);
    }

    static void p18SuchGuests() {
        KeyInn x = Due.inn(FULL);
        Due.bounds("first", x::first, 0, 8);
        x.book(0, 0, 0);
        Due.is("is booked", x.first(0), -3);
    }

    // Guest 0 wants room 0, which keys 0 (0 1), 1 (0 2) and 2 (0 3) open; guests 1 and 2 rooms 1, 2, by keys 3 and 4.
    private static KeyInn giving(String more) {
        return Due.inn("inn rooms 8 nights 1;key 0 1;key 0 2;key 0 3;key 1 4;key 2 5;" + "guest from 0 to 0 luggage 1;".repeat(3)
                + "wants 0 0;wants 1 1;wants 2 2;" + more);
    }

    static void p19TheBest() {
        KeyInn x = giving("");
        Due.is("ways", x.fits(0), 3);
        Due.is("the third leaves both", x.give(0), 2);
        Due.is("both", x.still(0), 2);
    }

    static void p19FirstOfSeveral() {
        KeyInn x = giving("trust 1 0;");
        Due.is("the first", x.first(0), 0);
        Due.is("as good as the third", x.give(0), 0);
        Due.is("1 by key 3, 2 by key 4", x.still(0), 2);
    }

    /** By key 0 (8 9) or key 1 (9 7): guest 0, who wants 8, can be behind the second alone. */
    static void p19GreatRooms() {
        KeyInn x = Due.inn("inn rooms 10 nights 1;key 8 9;key 9 7;key 8 6;" + "guest from 0 to 0 luggage 1;".repeat(2) + "wants 0 8;wants 1 9;");
        Due.is("the first", x.first(1), 900);
        Due.is("the second", x.give(1), 901);
        Due.is("the first guest", x.still(1), 1);
    }

    /** Guest 1 in room 9 leaves room 8 to guest 0, though guest 1 comes there: he is trusted. */
    static void p20OneWhoIsTrusted() {
        KeyInn x = Due.inn("inn rooms 10 nights 1;key 8 9;key 8 6;" + "guest from 0 to 0 luggage 1;".repeat(2) + "wants 0 8;wants 1 9;trust 0 1;");
        Due.is("give", x.give(1), 900);
        Due.is("still", x.still(1), 1);
    }

    static void p19NobodyElse() {
        KeyInn x = Due.inn("inn rooms 2 nights 1;key 0 1;guest from 0 to 0 luggage 1;");
        Due.is("give", x.give(0), 0);
        Due.is("still", x.still(0), 0);
    }

    static void p19None() {
        KeyInn x = Due.inn("inn rooms 2 nights 1;guest from 0 to 0 luggage 1;");
        Due.is("give", x.give(0), -1);
        KeyInn y = giving("");
        y.lose(0, true);
        y.lose(1, true);
        y.lose(2, true);
        Due.is("all lost", y.give(0), -1);
    }

    static void p19SuchGuests() {
        KeyInn x = Due.inn(FULL);
        Due.bounds("give", x::give, 0, 8);
        x.book(0, 0, 0);
        Due.is("is booked", x.give(0), -3);
        Due.is("nobody else is", x.count(7), 1);
    }

    static void p20LeastAndGreatest() {
        KeyInn x = Due.inn("inn rooms 2 nights 1;key 0 1;" + "guest from 0 to 0 luggage 1;".repeat(9));
        Due.is("none of eight", x.still(0), 0);
        KeyInn y = Due.inn("inn rooms 4 nights 2;key 0 1;key 2 3;guest from 0 to 0 luggage 1;" + "guest from 1 to 1 luggage 1;".repeat(8));
        Due.is("all of eight", y.still(0), 8);
        y.book(8, 0, 0);
        Due.is("he is booked: seven by key 1", y.still(0), 7);
    }

    static void p20None() {
        Due.is("no keys", Due.inn("inn rooms 2 nights 1;" + "guest from 0 to 0 luggage 1;".repeat(2)).still(0), -1);
    }

    static void p20SuchGuests() {
        KeyInn x = Due.inn(FULL);
        Due.bounds("still", x::still, 0, 8);
        x.book(0, 0, 0);
        Due.is("is booked", x.still(0), -3);
    }
}
