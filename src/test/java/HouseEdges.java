/** Edges of promises 21 to 27: who can be housed on a night, and rings made anew. */
final class HouseEdges {
    private static final String GUEST = "guest from 0 to 0 luggage 1;";
    /** Nobody on night 0, four on night 1, five on night 2, one of them alone on night 3. */
    private static final String NIGHTS = "inn rooms 10 nights 4;key 0 1;key 2 3;key 4 5;key 6 7;key 8 9;" + "guest from 1 to 2 luggage 1;".repeat(4)
            + "guest from 2 to 3 luggage 1;";
    private static final String FRIENDS = "trust 0 1 2 3;trust 1 0 2 3;trust 2 0 1 3;trust 3 0 1 2;";

    private HouseEdges() {
    }

    // ---- most: "-2: there is no such NIGHT, no INN; -3: there are more than four of them" ----

    static void p21SuchNights() {
        Due.bounds("most", Due.inn("inn rooms 2 nights 20;")::most, 0, 19);
        Due.bounds("most", Due.inn("inn rooms 2 nights 1;")::most, 0, 0);
    }

    static void p21FourAndFive() {
        KeyInn x = Due.inn(NIGHTS);
        Due.is("nobody", x.most(0), 0);
        Due.is("four", x.most(1), 4);
        Due.is("five", x.most(2), -3);
        Due.is("one", x.most(3), 1);
    }

    static void p21BookedOrNot() {
        KeyInn x = Due.inn(NIGHTS);
        for (int g = 0; g < 5; g++) {
            x.book(g, 2 * g, g);
        }
        Due.is("four who are booked", x.most(1), 4);
        Due.is("five who are booked", x.most(2), -3);
    }

    static void p21NoneOfThem() {
        Due.is("no keys", Due.inn("inn rooms 2 nights 1;" + GUEST).most(0), 0);
        KeyInn x = Due.inn("inn rooms 3 nights 1;key 0 1;" + GUEST + "wants 0 2;");
        Due.is("no key opens what he wants", x.most(0), 0);
        x = Due.inn("inn rooms 3 nights 1;key 0 1;" + GUEST);
        x.lose(0, true);
        Due.is("the key is lost", x.most(0), 0);
    }

    static void p21NoRoomNorKeyTwice() {
        Due.is("one key", Due.inn("inn rooms 2 nights 1;key 0 1;" + GUEST.repeat(4) + FRIENDS).most(0), 1);
        Due.is("two rooms", Due.inn("inn rooms 2 nights 1;" + "key 0 1;".repeat(9) + GUEST.repeat(4) + FRIENDS).most(0), 2);
    }

    static void p21FearEitherWay() {
        String two = "inn rooms 4 nights 1;key 0 1;key 1 2;" + GUEST.repeat(2) + "wants 0 0;wants 1 1;";
        Due.is("0 comes to 1's room", Due.inn(two).most(0), 1);
        Due.is("1 trusts him", Due.inn(two + "trust 1 0;").most(0), 2);
        Due.is("0's trust does not help", Due.inn(two + "trust 0 1;").most(0), 1);
    }

    /** Three rooms by one key: he comes to each of them, not to the last one alone. */
    static void p21FearInEachRoom() {
        for (int r = 1; r <= 2; r++) {
            KeyInn x = Due.inn("inn rooms 5 nights 1;key 0 1 2;key 1 3;key 2 4;" + GUEST.repeat(2) + "wants 0 0;wants 1 " + r + ";");
            Due.is("room " + r, x.most(0), 1);
        }
        KeyInn x = Due.inn("inn rooms 4 nights 1;key 0 1;key 2 3;" + GUEST.repeat(2) + "wants 0 2;wants 1 0;");
        Due.is("apart", x.most(0), 2);
        Due.is("the second has the first room", x.lay(0, 1), 0);
    }

    static void p21GuestsOfThatNightAlone() {
        KeyInn x = Due.inn("inn rooms 10 nights 2;key 0 1;key 2 3;key 4 5;key 6 7;guest from 1 to 1 luggage 1;" + GUEST.repeat(4));
        Due.is("four, not the first", x.most(0), 4);
        Due.is("the first alone", x.most(1), 1);
    }

    /** What was found for one inn does not stay for another one. */
    static void p21AnotherInn() {
        KeyInn x = Due.inn("inn rooms 2 nights 1;key 0 1;key 0 1;" + GUEST.repeat(2) + "trust 0 1;trust 1 0;");
        Due.is("friends", x.most(0), 2);
        Due.tell(x, "inn rooms 2 nights 1;key 0 1;key 0 1;" + GUEST.repeat(2));
        Due.is("strangers", x.most(0), 1);
    }

    // ---- ways ----

    static void p22Nobody() {
        Due.is("one way: nothing to do", Due.inn(NIGHTS).ways(0), 1);
        Due.is("without keys", Due.inn("inn rooms 2 nights 1;").ways(0), 1);
    }

    static void p22NoWay() {
        Due.is("no keys", Due.inn("inn rooms 2 nights 1;" + GUEST).ways(0), 0);
        Due.is("one key for two", Due.inn("inn rooms 2 nights 1;key 0 1;" + GUEST.repeat(2) + "trust 0 1;trust 1 0;").ways(0), 0);
    }

    static void p22OneGuest() {
        Due.is("all keys, all rooms", Due.inn("inn rooms 3 nights 1;" + "key 0 1 2;".repeat(12) + GUEST).ways(0), 36);
    }

    static void p22MostOfAll() {
        // Rooms 0 .. 8, four keys for each three of them: four friends.
        String keys = "key 0 1 2;key 3 4 5;key 6 7 8;".repeat(4);
        Due.is("ways", Due.inn("inn rooms 10 nights 1;" + keys + GUEST.repeat(4) + FRIENDS).ways(0), friendsWays());
        // All four in three rooms: there are not so many.
        Due.is("three rooms", Due.inn("inn rooms 3 nights 1;" + "key 0 1 2;".repeat(12) + GUEST.repeat(4) + FRIENDS).ways(0), 0);
        Due.is("three friends", Due.inn("inn rooms 3 nights 1;" + "key 0 1 2;".repeat(12) + GUEST.repeat(3)
                + "trust 0 1 2;trust 1 0 2;trust 2 0 1;").ways(0), 6 * 12 * 11 * 10);
    }

    private static int friendsWays() {
        int ways = 0;
        for (int four = 0; four < 9 * 9 * 9 * 9; four++) {
            int[] rooms = {four % 9, four / 9 % 9, four / 81 % 9, four / 729};
            int[] left = {4, 4, 4};
            int seen = 0;
            int product = 1;
            for (int r : rooms) {
                product *= (seen >> r & 1) != 0 ? 0 : left[r / 3];
                left[r / 3]--;
                seen |= 1 << r;
            }
            ways += product;
        }
        return ways;
    }

    static void p22SuchNights() {
        Due.bounds("ways", Due.inn("inn rooms 2 nights 20;")::ways, 0, 19);
        Due.is("five", Due.inn(NIGHTS).ways(2), -3);
        Due.is("four", Due.inn(NIGHTS).ways(1) > 0 ? 1 : 0, 1);
    }

    // ---- lay: "NONE: he is not HOUSED. -2 likewise, no such GUEST (of that NIGHT); -3 likewise" ----

    static void p23SuchNightsGuests() {
        KeyInn x = Due.inn(NIGHTS);
        Due.bounds("a guest of night 1", g -> x.lay(1, g), 0, 3);
        Due.bounds("a guest of night 3", g -> x.lay(3, g), 4, 4);
        Due.taken("a night", n -> x.lay(n, 0), 1);
        Due.absent("a night", n -> x.lay(n, 0), 0, 3, 4, -1, 33, Integer.MIN_VALUE, Integer.MAX_VALUE);
        for (int g = -1; g <= 5; g++) {
            Due.is("nobody is there on night 0: " + g, x.lay(0, g), -2);
        }
    }

    static void p23MoreThanFour() {
        KeyInn x = Due.inn(NIGHTS);
        for (int g = 0; g < 5; g++) {
            Due.is("guest " + g, x.lay(2, g), -3);
        }
        Due.is("no such guest, of five", x.lay(2, 5), -2);
    }

    static void p23LeastAndGreatest() {
        KeyInn x = Due.inn(NIGHTS);
        Due.is("room 0, key 0", x.lay(1, 0), 0);
        Due.is("the fourth", x.lay(1, 3), 603);
        KeyInn y = Due.inn("inn rooms 10 nights 1;" + "key 0 1;".repeat(11) + "key 8 9;" + GUEST + "wants 0 9;");
        Due.is("room 9, key 11", y.lay(0, 0), 911);
    }

    static void p23NotHoused() {
        KeyInn x = Due.inn("inn rooms 2 nights 1;key 0 1;" + GUEST.repeat(4));
        Due.is("the first", x.lay(0, 0), 0);
        for (int g = 1; g < 4; g++) {
            Due.is("guest " + g, x.lay(0, g), -1);
        }
        Due.is("no keys", Due.inn("inn rooms 2 nights 1;" + GUEST).lay(0, 0), -1);
    }

    static void p23MostAheadOfFirst() {
        // Guest 0 in room 1 bars guest 1; by key 2 guest 2 can be housed beside him.
        KeyInn x = Due.inn("inn rooms 4 nights 1;key 1 0;key 1 2;key 2 3;" + GUEST.repeat(3) + "wants 0 1;wants 1 0;wants 2 2 3;");
        Due.is("most", x.most(0), 2);
        Due.is("guest 0", x.lay(0, 0), 100);
        Due.is("guest 2", x.lay(0, 2), 202);
        // Without key 2 he would be alone, so he is not housed.
        x = Due.inn("inn rooms 4 nights 1;key 1 0;key 1 2;" + GUEST.repeat(3) + "wants 0 1;wants 1 0;wants 2 2;");
        Due.is("most", x.most(0), 2);
        Due.is("guest 0 is not", x.lay(0, 0), -1);
        Due.is("guest 1", x.lay(0, 1), 0);
        Due.is("guest 2", x.lay(0, 2), 201);
    }

    // ---- spare: "the first of several; NONE: there are no KEYS. -2, -3 likewise" ----

    static void p24NoKeys() {
        Due.is("one guest", Due.inn("inn rooms 2 nights 1;" + GUEST).spare(0), -1);
        Due.is("nobody", Due.inn("inn rooms 2 nights 1;").spare(0), -1);
        Due.is("five guests", Due.inn("inn rooms 2 nights 1;" + GUEST.repeat(5)).spare(0), -3);
    }

    static void p24OneKey() {
        Due.is("the only one", Due.inn("inn rooms 2 nights 1;key 0 1;" + GUEST).spare(0), 0);
    }

    static void p24FirstOfSeveral() {
        Due.is("nobody: all are", Due.inn(NIGHTS).spare(0), 0);
        Due.is("four guests, five keys: all are", Due.inn(NIGHTS).spare(1), 0);
    }

    static void p24TheLast() {
        // Each of keys 0 .. 2 is needed by one; the last opens nothing that is wanted.
        KeyInn x = Due.inn("inn rooms 8 nights 1;key 0 1;key 2 3;key 4 5;key 6 7;" + GUEST.repeat(3) + "wants 0 0;wants 1 2;wants 2 4;");
        Due.is("the last", x.spare(0), 3);
    }

    static void p24ALostOne() {
        KeyInn x = Due.inn("inn rooms 4 nights 1;key 0 1;key 2 3;" + GUEST.repeat(2));
        Due.is("both are needed", x.spare(0), 0);
        x.lose(1, true);
        Due.is("the lost one is not", x.spare(0), 1);
    }

    static void p24SuchNights() {
        Due.bounds("spare", Due.inn("inn rooms 2 nights 20;key 0 1;")::spare, 0, 19);
        Due.is("five", Due.inn(NIGHTS).spare(2), -3);
    }

    // ---- full: "-2 likewise; -3: more than seven, or fewer than two" ----

    private static String friends(int n) {
        StringBuilder text = new StringBuilder("inn rooms 2 nights 20;" + GUEST.repeat(n));
        for (int g = 0; g < n && n > 1; g++) {
            text.append("trust ").append(g);
            for (int h = 0; h < n; h++) {
                text.append(h == g ? "" : " " + h);
            }
            text.append(';');
        }
        return text.toString();
    }

    static void p25TwoToSeven() {
        int[] due = {-3, -3, 1, 2, 9, 44, 265, 1854, -3, -3};
        for (int n = 0; n < due.length; n++) {
            Due.is(n + " friends", Due.inn(friends(n)).full(0), due[n]);
        }
    }

    static void p25SuchNights() {
        KeyInn x = Due.inn(friends(2));
        Due.bounds("full", x::full, 0, 19);
        Due.is("nobody then", x.full(1), -3);
    }

    static void p25OfThatNight() {
        KeyInn x = Due.inn("inn rooms 2 nights 3;" + "guest from 0 to 1 luggage 1;".repeat(7) + "guest from 1 to 2 luggage 1;".repeat(2));
        Due.is("seven", x.full(0), 0);
        Due.is("nine", x.full(1), -3);
        Due.is("two", x.full(2), 0);
    }

    static void p25AskedAgain() {
        KeyInn x = Due.inn(friends(4));
        Due.is("once", x.full(0), 9);
        Due.is("twice", x.full(0), 9);
        Due.tell(x, "inn rooms 2 nights 1;" + GUEST.repeat(4) + "trust 0 1;trust 1 0;trust 2 3;trust 3 2;");
        Due.is("of another inn", x.full(0), 1);
        Due.tell(x, "inn rooms 2 nights 1;" + GUEST.repeat(2));
        Due.is("strangers", x.full(0), 0);
    }

    static void p25NotTheFirst() {
        KeyInn x = Due.inn("inn rooms 2 nights 2;guest from 1 to 1 luggage 1;" + GUEST);
        Due.is("one, not the first", x.full(0), -3);
        x = Due.inn("inn rooms 2 nights 2;guest from 1 to 1 luggage 1;" + GUEST.repeat(7));
        Due.is("seven, not the first", x.full(0), 0);
    }

    static void p25NoWay() {
        Due.is("strangers", Due.inn("inn rooms 2 nights 1;" + GUEST.repeat(2)).full(0), 0);
        Due.is("one trusts", Due.inn("inn rooms 2 nights 1;" + GUEST.repeat(2) + "trust 0 1;").full(0), 0);
        Due.is("both", Due.inn("inn rooms 2 nights 1;" + GUEST.repeat(2) + "trust 0 1;trust 1 0;").full(0), 1);
        Due.is("the third is alone", Due.inn("inn rooms 2 nights 1;" + GUEST.repeat(3) + "trust 0 1;trust 1 0;").full(0), 0);
    }

    static void p25RoomsKeysWantsAside() {
        KeyInn x = Due.inn("inn rooms 2 nights 1;" + GUEST.repeat(3) + "wants 0 0;wants 1 0;wants 2 0;trust 0 1 2;trust 1 0 2;trust 2 0 1;");
        Due.is("two rooms, no keys", x.full(0), 2);
    }

    // ---- rings: "the fewest rings (what 0), the most (what 1). NONE: there are no ways; -2, -3 likewise" ----

    static void p26LeastAndGreatest() {
        KeyInn two = Due.inn(friends(2));
        Due.is("two: fewest", two.rings(0, 0), 1);
        Due.is("two: most", two.rings(0, 1), 1);
        KeyInn seven = Due.inn(friends(7));
        Due.is("seven: fewest", seven.rings(0, 0), 1);
        Due.is("seven: most", seven.rings(0, 1), 3);
    }

    static void p26FewestAndMostWhereverTheyAre() {
        // Two ways: 1 0 3 2 in two rings, and then 2 3 1 0 in one.
        KeyInn x = Due.inn("inn rooms 2 nights 1;" + GUEST.repeat(4) + "trust 0 1 3;trust 1 0 2;trust 2 0 3;trust 3 1 2;");
        Due.is("two ways", x.full(0), 2);
        Due.is("fewest is the last", x.rings(0, 0), 1);
        Due.is("most is the first", x.rings(0, 1), 2);
        // Two ways: 1 2 3 0 in one ring, and then 3 2 1 0 in two.
        x = Due.inn("inn rooms 2 nights 1;" + GUEST.repeat(4) + "trust 1 0 2;trust 2 1;trust 3 2 0;trust 0 3;");
        Due.is("two ways", x.full(0), 2);
        Due.is("fewest is the first", x.rings(0, 0), 1);
        Due.is("most is the last", x.rings(0, 1), 2);
    }

    static void p26NoWays() {
        KeyInn x = Due.inn("inn rooms 2 nights 1;" + GUEST.repeat(2));
        Due.is("fewest", x.rings(0, 0), -1);
        Due.is("most", x.rings(0, 1), -1);
    }

    static void p26NotTwoToSeven() {
        for (int n : new int[] {0, 1, 8, 9}) {
            for (int what = 0; what <= 1; what++) {
                Due.is(n + " guests", Due.inn(friends(n)).rings(0, what), -3);
            }
        }
    }

    static void p26SuchNightsWhats() {
        KeyInn x = Due.inn(friends(2));
        Due.bounds("a night", n -> x.rings(n, 0), 0, 19);
        Due.bounds("a night", n -> x.rings(n, 1), 0, 19);
        Due.bounds("what", what -> x.rings(0, what), 0, 1);
    }

    // ---- next: "NONE: there is no way; -2 likewise, no such GUEST (of that NIGHT); -3 likewise" ----

    static void p27LeastAndGreatest() {
        KeyInn x = Due.inn("inn rooms 2 nights 2;" + "guest from 1 to 1 luggage 1;".repeat(7) + GUEST.repeat(2) + "trust 7 8;trust 8 7;");
        Due.is("7", x.next(0, 7), 8);
        Due.is("8", x.next(0, 8), 7);
        KeyInn seven = Due.inn(friends(7));
        Due.is("the first", seven.next(0, 0), 1);
        Due.is("the second", seven.next(0, 1), 0);
        Due.is("the last", seven.next(0, 6), 4);
    }

    static void p27WhoTrustsWhom() {
        // 1 trusts 0, so 1 is the next one of 0.
        KeyInn x = Due.inn("inn rooms 2 nights 1;" + GUEST.repeat(3) + "trust 1 0;trust 2 1;trust 0 2;");
        Due.is("of 0", x.next(0, 0), 1);
        Due.is("of 1", x.next(0, 1), 2);
        Due.is("of 2", x.next(0, 2), 0);
    }

    static void p27NoWay() {
        Due.is("strangers", Due.inn("inn rooms 2 nights 1;" + GUEST.repeat(2)).next(0, 1), -1);
    }

    static void p27NotTwoToSeven() {
        Due.is("one", Due.inn(friends(1)).next(0, 0), -3);
        Due.is("eight", Due.inn(friends(8)).next(0, 7), -3);
        Due.is("no such guest, of eight", Due.inn(friends(8)).next(0, 8), -2);
        Due.is("not of that night, of nobody", Due.inn(friends(1)).next(1, 0), -2);
    }

    static void p27SuchNightsGuests() {
        KeyInn x = Due.inn(friends(7));
        Due.bounds("a guest", g -> x.next(0, g), 0, 6);
        Due.bounds("a night", n -> x.next(n, 0), 0, 0);
    }
}
