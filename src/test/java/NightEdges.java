/** Edges of promises 40 to 47: a cleaner's keys, rings of keys, and what makes a night safer. */
final class NightEdges {
    private static final String FULL = KeyEdges.FULL;
    private static final String GUEST = "guest from 0 to 0 luggage 1;";
    /** Key k opens rooms 0 and k + 1, so nine are needed for all ten rooms. */
    private static final String FAN = "inn rooms 10 nights 1;key 0 1;key 0 2;key 0 3;key 0 4;key 0 5;key 0 6;key 0 7;key 0 8;key 0 9;";

    private NightEdges() {
    }

    // ---- round: "FEWEST KEYS that are not LOST .. NONE: not by all; -2 likewise" ----

    static void p40One() {
        KeyInn x = Due.inn("inn rooms 3 nights 1;key 0 1;key 0 1 2;");
        Due.is("how many", x.round(0), 1);
        Due.is("which", x.round(1), 2);
    }

    static void p40Nine() {
        KeyInn x = Due.inn(FAN);
        Due.is("how many", x.round(0), 9);
        Due.is("which", x.round(1), 511);
    }

    static void p40TheLeastSet() {
        KeyInn x = Due.inn("inn rooms 4 nights 1;key 2 3;key 0 1;key 0 2;key 1 3;");
        Due.is("0 and 1, not 2 and 3", x.round(1), 3);
        x.lose(0, true);
        Due.is("2 and 3", x.round(1), 12);
        Due.is("two", x.round(0), 2);
    }

    static void p40ByTheLastKey() {
        KeyInn x = Due.inn("inn rooms 3 nights 1;" + "key 0 1;".repeat(11) + "key 0 1 2;");
        Due.is("which", x.round(1), 2048);
    }

    static void p40NotByAll() {
        KeyInn x = Due.inn(FAN);
        x.lose(8, true);
        Due.is("the last is lost: how many", x.round(0), -1);
        Due.is("which", x.round(1), -1);
        KeyInn y = Due.inn(TextEdges.HEAD);
        Due.is("no keys: how many", y.round(0), -1);
        Due.is("which", y.round(1), -1);
    }

    static void p40SuchWhats() {
        Due.bounds("what", Due.inn(FAN)::round, 0, 1);
        Due.bounds("what, without keys", Due.inn(TextEdges.HEAD)::round, 0, 1);
        Due.is("no inn", new KeyInn().round(0), -2);
        Due.is("no inn", new KeyInn().round(1), -2);
    }

    // ---- rounds: "Likewise to all ROOMS of a set (bits)" ----

    static void p41NoRooms() {
        KeyInn x = Due.inn(TextEdges.HEAD);
        Due.is("no keys: how many", x.rounds(0, 0), 0);
        Due.is("which", x.rounds(0, 1), 0);
        Due.is("no inn", new KeyInn().rounds(0, 0), -2);
    }

    static void p41AllRooms() {
        KeyInn x = Due.inn(FAN);
        Due.is("how many", x.rounds(1023, 0), 9);
        Due.is("which", x.rounds(1023, 1), 511);
        Due.is("the first", x.rounds(1, 1), 1);
        Due.is("the last", x.rounds(512, 1), 256);
    }

    static void p41NotByAll() {
        KeyInn x = Due.inn(FAN);
        x.lose(8, true);
        Due.is("how many", x.rounds(512, 0), -1);
        Due.is("which", x.rounds(512, 1), -1);
        Due.is("the others", x.rounds(511, 1), 255);
    }

    static void p41SuchRooms() {
        KeyInn x = Due.inn(FAN);
        for (int what = 0; what <= 1; what++) {
            for (int rooms : new int[] {1024, 1025, 2047, 1 << 30, 1 << 31, -1, -1024, Integer.MAX_VALUE}) {
                Due.is("rounds(" + rooms + ", " + what + ")", x.rounds(rooms, what), -2);
            }
        }
        Due.is("the fourth of three", Due.inn(TextEdges.HEAD).rounds(8, 0), -2);
        Due.is("all of three", Due.inn(TextEdges.HEAD).rounds(7, 0), -1);
    }

    static void p41SuchWhats() {
        KeyInn x = Due.inn(FAN);
        Due.bounds("what", what -> x.rounds(1023, what), 0, 1);
        Due.bounds("what, of no rooms", what -> x.rounds(0, what), 0, 1);
    }

    // ---- loops: "of two KEYS or more that open two ROOMS each, .. no other KEY (that is not LOST)" ----

    private static KeyInn keys(String keys) {
        return Due.inn("inn rooms 10 nights 1;" + keys);
    }

    static void p42None() {
        Due.is("no keys", keys("").loops(), 0);
        Due.is("no inn", new KeyInn().loops(), -2);
    }

    static void p42TwoKeysOrMore() {
        Due.is("one", keys("key 0 1;").loops(), 0);
        Due.is("two", keys("key 0 1;key 1 0;").loops(), 1);
        Due.is("three", keys("key 0 1;key 1 2;key 2 0;").loops(), 1);
        Due.is("ten", keys("key 0 1;key 1 2;key 2 3;key 3 4;key 4 5;key 5 6;key 6 7;key 7 8;key 8 9;key 9 0;").loops(), 1);
    }

    /** The keys of a ring may stand in any order. */
    static void p42AnyOrder() {
        Due.is("five", keys("key 0 1;key 2 3;key 3 4;key 1 2;key 4 0;").loops(), 1);
        Due.is("six", keys("key 0 1;key 3 4;key 2 3;key 4 5;key 1 2;key 5 0;").loops(), 1);
    }

    static void p42FiveRings() {
        Due.is("five", keys("key 0 1;key 2 3;key 4 5;key 6 7;key 8 9;key 0 1;key 2 3;key 4 5;key 6 7;key 8 9;").loops(), 5);
        Due.is("and one key more in one", keys("key 0 1;key 2 3;key 4 5;key 6 7;key 8 9;key 0 1;key 2 3;key 4 5;key 6 7;key 8 9;key 8 9;").loops(), 4);
        Due.is("and one that joins two", keys("key 0 1;key 2 3;key 4 5;key 6 7;key 8 9;key 0 1;key 2 3;key 4 5;key 6 7;key 8 9;key 1 2;").loops(), 3);
    }

    static void p42NotRound() {
        Due.is("a row", keys("key 0 1;key 1 2;key 2 3;").loops(), 0);
        Due.is("a ring with a tail", keys("key 0 1;key 1 2;key 2 0;key 2 3;").loops(), 0);
    }

    static void p42TwoRoomsEach() {
        Due.is("one opens three", keys("key 0 1;key 0 1 2;").loops(), 0);
        Due.is("both do", keys("key 0 1 2;key 0 1 2;").loops(), 0);
        Due.is("three that open three", keys("key 0 1 3;key 1 2 4;key 2 0 5;").loops(), 0);
    }

    static void p42NoOtherKey() {
        Due.is("a third for both rooms", keys("key 0 1;key 0 1;key 0 1;").loops(), 0);
        Due.is("a third for one room", keys("key 0 1;key 0 1;key 1 5;").loops(), 0);
        Due.is("a third of three rooms", keys("key 0 1;key 0 1;key 1 5 6;").loops(), 0);
        Due.is("a third elsewhere", keys("key 0 1;key 0 1;key 4 5 6;").loops(), 1);
    }

    static void p42LostOnes() {
        KeyInn x = keys("key 0 1;key 0 1;key 0 1;");
        x.lose(2, true);
        Due.is("the third is lost", x.loops(), 1);
        x.lose(0, true);
        Due.is("one is left", x.loops(), 0);
        x.lose(2, false);
        Due.is("two again", x.loops(), 1);
    }

    static void p42AsTheyAreTold() {
        KeyInn x = keys("key 0 1;key 0 1;");
        x.lose(0, true);
        x.change(0);
        x.lose(0, false);
        Due.is("a changed lock aside", x.loops(), 1);
    }

    // ---- leave: "-2: there are none such, no INN" ----

    static void p43Nobody() {
        KeyInn x = Due.inn(FULL);
        Due.is("how many", x.leave(0, 0), 0);
        Due.is("which", x.leave(0, 1), 0);
        x.book(0, 0, 0);
        Due.is("one alone: how many", x.leave(0, 0), 0);
        Due.is("which", x.leave(0, 1), 0);
    }

    static void p43AllButOne() {
        KeyInn x = BookEdges.allTogether("");
        Due.is("how many", x.leave(19, 0), 8);
        Due.is("which", x.leave(19, 1), 255);
    }

    static void p43WhoFearsOrIsFeared() {
        // 1 comes to 0's room, not the other way round: either of them may leave.
        KeyInn x = Due.inn("inn rooms 3 nights 2;key 0 1;key 0 2;" + GUEST + "guest from 0 to 1 luggage 1;");
        x.book(0, 0, 0);
        x.book(1, 2, 1);
        Due.is("pairs", x.unsafe(0, 1), 1);
        Due.is("one", x.leave(0, 0), 1);
        Due.is("the least set", x.leave(0, 1), 1);
        Due.is("nobody on the next night", x.leave(1, 0), 0);
        Due.is("he stays booked", x.count(7), 3);
    }

    static void p43SuchNightsWhats() {
        KeyInn x = BookEdges.allTogether("");
        Due.bounds("a night", n -> x.leave(n, 0), 0, 19);
        Due.bounds("a night", n -> x.leave(n, 1), 0, 19);
        Due.bounds("what", what -> x.leave(0, what), 0, 1);
    }

    // ---- shut: "the first of several (what 0), how many pairs then (what 1). NONE: there are no DOORS" ----

    static void p44NoDoors() {
        KeyInn x = Due.inn(TextEdges.HEAD);
        Due.is("which", x.shut(0, 0), -1);
        Due.is("pairs", x.shut(0, 1), -1);
        Due.is("no such night", x.shut(4, 0), -2);
        Due.is("no such what", x.shut(0, 2), -2);
    }

    static void p44FirstOfSeveral() {
        KeyInn x = Due.inn(FULL);
        Due.is("nobody fears: which", x.shut(0, 0), 0);
        Due.is("nobody fears: pairs", x.shut(0, 1), 0);
    }

    static void p44TheLast() {
        // By door 7 alone guest 1 comes to guest 0's room.
        KeyInn x = Due.inn("inn rooms 4 nights 1;key 0 1;key 2 3;" + "door 2 to 3;".repeat(7) + "door 3 to 0;" + GUEST.repeat(2));
        x.book(0, 0, 0);
        x.book(1, 2, 1);
        Due.is("pairs", x.unsafe(0, 1), 2);
        Due.is("which", x.shut(0, 0), 7);
        Due.is("pairs then", x.shut(0, 1), 0);
        Due.is("it is not shut", x.unsafe(0, 1), 2);
    }

    static void p44MostPairs() {
        KeyInn x = BookEdges.allTogether("");
        // With 3 to 4 shut (door 3) 0 .. 2 stay by themselves; key 3 opens both 3 and 4, so guest 3 comes to all.
        int fewest = Integer.MAX_VALUE;
        int which = -1;
        for (int d = 0; d < 8; d++) {
            int pairs = pairsWithout(d);
            if (pairs < fewest) {
                fewest = pairs;
                which = d;
            }
        }
        Due.is("which", x.shut(0, 0), which);
        Due.is("pairs then", x.shut(0, 1), fewest);
    }

    /** Rooms 0 .. d and d + 1 .. 8 apart; guest d comes to both, the others to their own side. */
    private static int pairsWithout(int d) {
        int low = d + 1;
        int high = 8 - d;
        return low * (low - 1) + high * (high - 1) + high;
    }

    static void p44SuchNightsWhats() {
        KeyInn x = BookEdges.allTogether("");
        Due.bounds("a night", n -> x.shut(n, 0), 0, 19);
        Due.bounds("a night", n -> x.shut(n, 1), 0, 19);
        Due.bounds("what", what -> x.shut(0, what), 0, 1);
    }

    // ---- swap: "-2: there are none such, one twice; -3: one is not BOOKED, or for others; -5: one does not want" ----

    /** Guests 0, 1 on nights 1 .. 2, guest 2 on 1 .. 3, guest 3 on 0 .. 2; guest 1 wants rooms 1 .. 3. */
    private static KeyInn swapping() {
        return Due.inn("inn rooms 8 nights 4;key 0 1;key 1 2;key 3 4;key 5 6;guest from 1 to 2 luggage 1;guest from 1 to 2 luggage 1;"
                + "guest from 1 to 3 luggage 1;guest from 0 to 2 luggage 1;wants 1 1 2 3;");
    }

    static void p45SuchGuestsNights() {
        KeyInn x = swapping();
        x.book(0, 1, 0);
        x.book(1, 2, 1);
        Due.bounds("one", g -> x.swap(g, g == 0 ? 1 : 0, 0), 0, 3);
        Due.bounds("the other", g -> x.swap(g == 0 ? 1 : 0, g, 0), 0, 3);
        Due.bounds("a night", n -> x.swap(0, 1, n), 0, 3);
    }

    static void p45OneTwice() {
        KeyInn x = swapping();
        x.book(0, 1, 0);
        for (int g = -1; g <= 4; g++) {
            Due.is("guest " + g, x.swap(g, g, 0), -2);
        }
    }

    static void p45NotBooked() {
        KeyInn x = swapping();
        Due.is("neither", x.swap(0, 1, 0), -3);
        x.book(0, 1, 0);
        Due.is("the other", x.swap(0, 1, 0), -3);
        Due.is("the one", x.swap(1, 0, 0), -3);
        x.book(1, 2, 1);
        Due.is("both", x.swap(0, 1, 0), 0);
        x.off(0);
        Due.is("no more", x.swap(0, 1, 0), -3);
    }

    static void p45ForOtherNights() {
        KeyInn x = swapping();
        x.book(0, 1, 0);
        x.book(2, 3, 2);
        x.book(3, 5, 3);
        Due.is("to is another", x.swap(0, 2, 1), -3);
        Due.is("from is another", x.swap(0, 3, 1), -3);
        Due.is("both are", x.swap(2, 3, 1), -3);
    }

    static void p45DoesNotWant() {
        KeyInn x = swapping();
        x.book(0, 0, 0);
        x.book(1, 2, 1);
        Due.is("the other", x.swap(0, 1, 1), -5);
        Due.is("the one", x.swap(1, 0, 1), -5);
        Due.is("all stays", x.guest(0, 0), 0);
        Due.is("all stays", x.guest(1, 0), 2);
        Due.is("not booked ahead of it", x.swap(2, 1, 1), -3);
    }

    static void p45PairsThen() {
        KeyInn x = swapping();
        x.book(0, 1, 0);
        x.book(1, 2, 1);
        // Now 1 comes to room 1; then 0 comes, by key 1, to 1's room 1.
        int[] due = {0, 1, 1, 0};
        for (int n = 0; n < 4; n++) {
            Due.is("night " + n, x.swap(0, 1, n), due[n]);
            Due.is("in thought", x.fears(0, n), due[n] * 2);
        }
    }

    // ---- visitors: "-2: there are none such" ----

    static void p46HisNights() {
        KeyInn x = swapping();
        Due.is("nobody is booked", x.visitors(1, 1), 0);
        x.book(0, 1, 0);
        int[] due = {0, 1, 1, 0};
        for (int n = 0; n < 4; n++) {
            Due.is("night " + n, x.visitors(0, n), due[n]);
            Due.is("his own room, night " + n, x.visitors(1, n), due[n]);
            Due.is("a room that he can't come to", x.visitors(2, n), 0);
        }
    }

    static void p46All() {
        KeyInn x = BookEdges.allTogether("");
        Due.is("all nine", x.visitors(0, 19), 511);
        Due.is("the last", x.visitors(9, 0), 256);
    }

    static void p46SuchRoomsNights() {
        KeyInn x = Due.inn(FULL);
        Due.bounds("a room", r -> x.visitors(r, 0), 0, 9);
        Due.bounds("a night", n -> x.visitors(9, n), 0, 19);
    }

    // ---- calm: "-2: there is no INN" ----

    /** Six nights; guests 0 and 1 fear one another on the nights from .. to. */
    private static KeyInn uneasy(int from, int to) {
        String guest = "guest from " + from + " to " + to + " luggage 1;";
        KeyInn x = Due.inn("inn rooms 4 nights 6;key 0 1;key 0 1;key 2 3;" + guest + guest);
        x.book(0, 0, 0);
        x.book(1, 1, 1);
        return x;
    }

    static void p47AllNights() {
        Due.is("twenty", Due.inn(FULL).calm(), 20);
        Due.is("one", Due.inn("inn rooms 2 nights 1;").calm(), 1);
        Due.is("no inn", new KeyInn().calm(), -2);
    }

    static void p47NoNight() {
        Due.is("fear", uneasy(0, 5).calm(), 0);
        KeyInn x = Due.inn("inn rooms 2 nights 3;key 0 1;guest from 0 to 2 luggage 1;");
        x.book(0, 1, 0);
        Due.is("calm", x.calm(), 3);
        x.lose(0, true);
        Due.is("bare", x.calm(), 0);
    }

    static void p47InARow() {
        Due.is("ahead", uneasy(5, 5).calm(), 5);
        Due.is("behind", uneasy(0, 0).calm(), 5);
        Due.is("longer ahead", uneasy(3, 4).calm(), 3);
        Due.is("longer behind", uneasy(1, 2).calm(), 3);
        Due.is("between", uneasy(2, 2).calm(), 3);
        Due.is("one left", uneasy(1, 5).calm(), 1);
    }

    static void p47BareAndFear() {
        KeyInn x = Due.inn("inn rooms 6 nights 6;key 0 1;key 0 1;key 2 3;guest from 0 to 0 luggage 1;guest from 0 to 0 luggage 1;"
                + "guest from 3 to 3 luggage 1;");
        x.book(0, 0, 0);
        x.book(1, 1, 1);
        x.book(2, 2, 2);
        Due.is("1 .. 5", x.calm(), 5);
        x.lose(2, true);
        Due.is("1, 2 or 4, 5", x.calm(), 2);
    }
}
