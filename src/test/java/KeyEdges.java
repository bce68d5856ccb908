/** Edges of promises 6 to 10: keys, reach, steps, trust, what is told of a guest. */
final class KeyEdges {
    /** As much of all as can be: key k opens rooms k and k + 1 (modulo 10), doors join 0 .. 8 in a row. */
    static final String FULL = full();

    private KeyEdges() {
    }

    private static String full() {
        StringBuilder text = new StringBuilder("inn rooms 10 nights 20;");
        for (int k = 0; k < 12; k++) {
            text.append("key ").append(k % 10).append(' ').append((k + 1) % 10).append(';');
        }
        for (int d = 0; d < 8; d++) {
            text.append("door ").append(d + 1).append(" to ").append(d).append(';');
        }
        return text.append("guest from 0 to 19 luggage 99;".repeat(9)).toString();
    }

    /** One guest from 2 to 4 of six nights, keys 0 1 and 1 2. */
    private static KeyInn small() {
        return Due.inn("inn rooms 3 nights 6;key 0 1;key 1 2;guest from 2 to 4 luggage 1;guest from 5 to 5 luggage 1;");
    }

    // ---- key: "ROOMS that a KEY opens now, as bits (what 0)" ----

    static void p06SuchKeys() {
        KeyInn x = Due.inn(FULL);
        for (int what : new int[] {0, 1, 10, 29}) {
            Due.bounds("key, what " + what, k -> x.key(k, what), 0, 11);
        }
        Due.is("the first", x.key(0, 0), 3);
        Due.is("the last", x.key(11, 0), 6);
        Due.is("rooms 9 and 0", x.key(9, 0), 513);
    }

    static void p06NoKeys() {
        KeyInn x = Due.inn("inn rooms 10 nights 20;");
        for (int what : new int[] {0, 1, 10}) {
            Due.is("key(0, " + what + ")", x.key(0, what), -2);
        }
    }

    static void p06OpensNone() {
        KeyInn x = small();
        x.lose(0, true);
        x.change(0);
        Due.is("one less", x.key(0, 0), 2);
        x.change(1);
        Due.is("none", x.key(0, 0), 0);
        Due.is("the other as it was", x.key(1, 0), 6);
    }

    static void p06LostOrNot() {
        KeyInn x = small();
        Due.is("not", x.key(1, 1), 0);
        x.lose(1, true);
        Due.is("lost", x.key(1, 1), 1);
        Due.is("the other", x.key(0, 1), 0);
        x.lose(1, false);
        Due.is("found", x.key(1, 1), 0);
    }

    static void p06SuchWhats() {
        KeyInn x = small();
        for (int what : new int[] {-1, 2, 3, 8, 9, -10, 32, 33, Integer.MIN_VALUE, Integer.MIN_VALUE + 9, Integer.MAX_VALUE}) {
            Due.is("key(0, " + what + ")", x.key(0, what), -2);
        }
    }

    static void p06NightsToldByWhat() {
        KeyInn x = small();
        Due.is("the first", x.key(0, 10), -1);
        Due.is("the last", x.key(0, 15), -1);
        Due.is("one beyond", x.key(0, 16), -2);
        KeyInn y = Due.inn(FULL);
        Due.is("the last of twenty", y.key(0, 29), -1);
        Due.is("one beyond", y.key(0, 30), -2);
    }

    static void p06Whose() {
        KeyInn x = small();
        x.book(0, 0, 0);
        Due.is("ahead of his nights", x.key(0, 11), -1);
        Due.is("his first", x.key(0, 12), 0);
        Due.is("his last", x.key(0, 14), 0);
        Due.is("behind his nights", x.key(0, 15), -1);
        Due.is("another key", x.key(1, 13), -1);
        x.book(1, 1, 0);
        Due.is("the next one's", x.key(0, 15), 1);
        Due.is("his as before", x.key(0, 14), 0);
        x.off(0);
        Due.is("nobody's", x.key(0, 14), -1);
    }

    static void p06WhoseThoughLost() {
        KeyInn x = small();
        x.book(0, 0, 0);
        x.lose(0, true);
        x.change(0);
        x.change(1);
        Due.is("his", x.key(0, 12), 0);
    }

    // ---- reach: "REACH of a set of KEYS (bits), as bits. -2: there are none such, no INN." ----

    static void p07NoKeysOfTheSet() {
        Due.is("of a full inn", Due.inn(FULL).reach(0), 0);
        Due.is("of an inn without keys", Due.inn(TextEdges.HEAD).reach(0), 0);
        Due.is("without an inn", new KeyInn().reach(0), -2);
    }

    static void p07AllKeys() {
        KeyInn x = Due.inn(FULL);
        Due.is("all twelve", x.reach(4095), 1023);
        Due.is("the last alone", x.reach(2048), 511);
        Due.is("key 9: 9 and, by 0, the others", x.reach(512), 1023);
    }

    static void p07NoneSuch() {
        KeyInn x = Due.inn(FULL);
        for (int keys : new int[] {4096, 4097, 8191, 1 << 16, 1 << 30, 1 << 31, (1 << 31) + 1, -1, -2, -4096, Integer.MAX_VALUE}) {
            Due.is("reach(" + keys + ")", x.reach(keys), -2);
        }
        Due.is("the first of none", Due.inn(TextEdges.HEAD).reach(1), -2);
        Due.is("the third of two", small().reach(4), -2);
        Due.is("both of two", small().reach(3), 7);
    }

    static void p07DoorsBothWays() {
        KeyInn x = Due.inn("inn rooms 5 nights 1;key 0 4;key 2 4;door 0 to 1;door 2 to 1;");
        Due.is("from 0", x.reach(1), 23);
        Due.is("from 2", x.reach(2), 23);
    }

    static void p07OpenNow() {
        KeyInn x = small();
        x.lose(0, true);
        Due.is("lost, it opens", x.reach(1), 3);
        x.change(0);
        Due.is("changed", x.reach(1), 2);
        x.change(1);
        Due.is("nothing", x.reach(1), 0);
    }

    // ---- steps: "Through how many ROOMS one goes at least to be in a ROOM (that one, too)" ----

    static void p08TheFewest() {
        KeyInn x = Due.inn(FULL);
        Due.is("a room that it opens", x.steps(1, 0), 1);
        Due.is("the other one", x.steps(1, 1), 1);
        Due.is("one door on", x.steps(1, 2), 2);
    }

    static void p08TheMost() {
        KeyInn x = Due.inn(FULL);
        Due.is("0 to 8", x.steps(512, 8), 9);
        Due.is("9", x.steps(512, 9), 1);
        Due.is("8 to 0", x.steps(256, 0), 9);
        Due.is("0 to 8, by two", x.steps(512 | 1, 8), 8);
    }

    /** Nine rooms in a row by eight doors, and a key that opens the first alone now. */
    private static KeyInn inARow() {
        StringBuilder text = new StringBuilder("inn rooms 9 nights 1;key 0 8;");
        for (int d = 0; d < 8; d++) {
            text.append("door ").append(d).append(" to ").append(d + 1).append(';');
        }
        KeyInn x = Due.inn(text.toString());
        x.lose(0, true);
        x.change(8);
        return x;
    }

    static void p08ThroughAllRooms() {
        KeyInn x = inARow();
        for (int r = 0; r < 9; r++) {
            Due.is("room " + r, x.steps(1, r), r + 1);
        }
    }

    static void p07ThroughAllRooms() {
        Due.is("reach", inARow().reach(1), 511);
    }

    static void p08OneCant() {
        KeyInn x = Due.inn(FULL);
        Due.is("no door leads there", x.steps(1, 9), -1);
        Due.is("no keys of the set", x.steps(0, 0), -1);
        Due.is("an inn without keys", Due.inn(TextEdges.HEAD).steps(0, 0), -1);
        KeyInn y = small();
        y.lose(0, true);
        y.change(0);
        Due.is("it opens that no more", y.steps(1, 0), -1);
    }

    static void p08SuchKeysAndRooms() {
        KeyInn x = Due.inn(FULL);
        Due.bounds("steps to a room", r -> x.steps(4095, r), 0, 9);
        for (int keys : new int[] {4096, -1, 1 << 31, Integer.MAX_VALUE}) {
            Due.is("steps(" + keys + ", 0)", x.steps(keys, 0), -2);
        }
        Due.is("no inn", new KeyInn().steps(0, 0), -2);
        Due.is("a room beyond, no keys", x.steps(0, 10), -2);
    }

    // ---- trusts: "-2: there are none such, one twice" ----

    static void p09SuchGuests() {
        KeyInn x = Due.inn(FULL + "trust 8 0;");
        Due.bounds("trusts .. 4", g -> x.trusts(g, 4), 0, 8);
        Due.bounds("trusts 4 ..", g -> x.trusts(4, g), 0, 8);
        Due.is("the last the first", x.trusts(8, 0), 1);
        Due.is("the first the last", x.trusts(0, 8), 0);
    }

    static void p09OneTwice() {
        KeyInn x = Due.inn(FULL);
        for (int g = -1; g <= 9; g++) {
            Due.is("trusts(" + g + ", " + g + ")", x.trusts(g, g), -2);
        }
    }

    static void p09AllAndNone() {
        KeyInn x = Due.inn(FULL + "trust 0 1 2 3 4 5 6 7 8;");
        for (int g = 1; g <= 8; g++) {
            Due.is("0 trusts " + g, x.trusts(0, g), 1);
            Due.is(g + " trusts 0", x.trusts(g, 0), 0);
        }
    }

    // ---- guest: "what 0: the ROOM (NONE: not BOOKED), 1: the KEY (NONE likewise), 2: from, 3: to, .." ----

    static void p10SuchGuests() {
        KeyInn x = Due.inn(FULL);
        for (int what = 0; what <= 5; what++) {
            int asked = what;
            Due.bounds("guest, what " + what, g -> x.guest(g, asked), 0, 8);
        }
        Due.is("of none", Due.inn(TextEdges.HEAD).guest(0, 2), -2);
    }

    static void p10SuchWhats() {
        KeyInn x = Due.inn(FULL);
        Due.bounds("guest 8, what", what -> x.guest(8, what), 0, 5);
    }

    static void p10NotBooked() {
        KeyInn x = small();
        Due.is("no room", x.guest(0, 0), -1);
        Due.is("no key", x.guest(0, 1), -1);
        x.book(0, 0, 0);
        Due.is("room 0", x.guest(0, 0), 0);
        Due.is("key 0", x.guest(0, 1), 0);
        x.off(0);
        Due.is("no room more", x.guest(0, 0), -1);
        Due.is("no key more", x.guest(0, 1), -1);
    }

    static void p10TheGreatest() {
        KeyInn x = Due.inn(FULL + "wants 0 9;");
        Due.is("to", x.guest(8, 3), 19);
        Due.is("luggage", x.guest(8, 4), 99);
        Due.is("wants all", x.guest(8, 5), 1023);
        Due.is("wants the last", x.guest(0, 5), 512);
        Due.is("book", x.book(0, 9, 9), 0);
        Due.is("room", x.guest(0, 0), 9);
        Due.is("key", x.guest(0, 1), 9);
        Due.is("book by the last key", x.book(8, 1, 11), 0);
        Due.is("key", x.guest(8, 1), 11);
    }

    static void p10TheLeast() {
        KeyInn x = Due.inn("inn rooms 2 nights 1;guest from 0 to 0 luggage 0;wants 0 0;");
        Due.is("from", x.guest(0, 2), 0);
        Due.is("to", x.guest(0, 3), 0);
        Due.is("luggage", x.guest(0, 4), 0);
        Due.is("wants", x.guest(0, 5), 1);
    }
}
