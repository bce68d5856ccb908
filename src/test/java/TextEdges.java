/** Edges of promises 1 to 5: a new object, the tape, the text as a whole, what stays behind a fault. */
final class TextEdges {
    static final String HEAD = "inn rooms 3 nights 4;";
    static final String GUEST = "guest from 0 to 1 luggage 5;";
    private static final int BLANKS = 0x20202020;

    private TextEdges() {
    }

    /** Every call that needs an inn is refused, and there is nothing to be counted. */
    static void asNoInn(KeyInn x) {
        for (int what = 0; what <= 9; what++) {
            if (what != 6) {
                Due.is("count(" + what + ")", x.count(what), 0);
            }
        }
        int[] refused = {x.key(0, 0), x.key(0, 1), x.key(0, 10), x.reach(0), x.steps(0, 0), x.trusts(0, 1), x.guest(0, 0),
            x.book(0, 0, 0), x.off(0), x.comes(0, 0), x.fears(0, 0), x.unsafe(0, 0), x.risk(0), x.fits(0), x.first(0),
            x.give(0), x.still(0), x.most(0), x.ways(0), x.lay(0, 0), x.spare(0), x.full(0), x.rings(0, 0), x.next(0, 0),
            x.lose(0, true), x.lose(0, false), x.open(), x.bare(0), x.harm(0, 0), x.worst(0), x.change(0), x.fewest(0, 0),
            x.theft(0, 0), x.away(0, 0), x.could(0), x.all(), x.gang(0), x.round(0), x.rounds(0, 0), x.loops(),
            x.leave(0, 0), x.shut(0, 0), x.swap(0, 1, 0), x.visitors(0, 0), x.calm(), x.judge(0), x.judge(3), x.then(0, 0),
            x.season(0), x.seasons(0, 1, 0)};
        for (int i = 0; i < refused.length; i++) {
            Due.is("call " + i + " without an inn", refused[i], -2);
        }
    }

    // ---- "No INN." ----

    static void p01NoInn() {
        asNoInn(new KeyInn());
    }

    static void p01TapeSlotsImagesAreEmpty() {
        KeyInn x = new KeyInn();
        Due.is("bytes", x.count(6), 0);
        Due.is("rows", x.count(10), 0);
        for (int slot = 0; slot < 4; slot++) {
            Due.is("slot " + slot, x.write(slot, 0, 1), -6);
        }
        for (int k = 0; k < 3; k++) {
            Due.is("image " + k, x.back(k), -6);
        }
    }

    static void p01ObjectsAreApart() {
        KeyInn one = Due.inn(HEAD);
        KeyInn other = new KeyInn();
        asNoInn(other);
        Due.is("the first one's rooms", one.count(0), 3);
    }

    // ---- "Twenty bytes come behind the TAPE, four of each number, the highest first" ----

    static void p02HowManyItHas() {
        KeyInn x = new KeyInn();
        Due.is("the first feed", x.feed(0, 0, 0, 0, 0), 20);
        Due.is("the second", x.feed(-1, -1, -1, -1, -1), 40);
        x.end(7);
        Due.is("behind seven", x.feed(0, 0, 0, 0, 0), 27);
    }

    /** A sign alone among blanks is a fault at the place where its byte came. */
    static void p02PlaceOfEachByte() {
        for (int sign : new int[] {';', 0, 127, 128, 255}) {
            for (int at = 0; at < 20; at++) {
                int[] five = {BLANKS, BLANKS, BLANKS, BLANKS, BLANKS};
                int shift = 24 - at % 4 * 8;
                five[at / 4] = five[at / 4] & ~(255 << shift) | sign << shift;
                KeyInn x = new KeyInn();
                x.feed(five[0], five[1], five[2], five[3], five[4]);
                Due.is("inn()", x.inn(), -4);
                Due.is("place of byte " + sign, x.fault(1), at);
            }
        }
    }

    // ---- "NONE, and none come, if it would have more than 1,600" ----

    private static KeyInn withBytes(int n) {
        KeyInn x = new KeyInn();
        Due.feed(x, HEAD);
        while (x.count(6) < n) {
            x.feed(BLANKS, BLANKS, BLANKS, BLANKS, BLANKS);
            if (x.count(6) > n) {
                x.end(n);
            }
            if (x.count(6) > 1580) {
                break;
            }
        }
        if (x.count(6) < n) {
            x.end(n - 20);
            x.feed(BLANKS, BLANKS, BLANKS, BLANKS, BLANKS);
        }
        Due.is("bytes", x.count(6), n);
        return x;
    }

    static void p02UpTo1600() {
        KeyInn x = withBytes(1580);
        Due.is("feed behind 1,580", x.feed(BLANKS, BLANKS, BLANKS, BLANKS, BLANKS), 1600);
        Due.is("it is read", x.inn(), 1);
    }

    static void p02EightyFromEmpty() {
        KeyInn x = new KeyInn();
        for (int i = 1; i <= 80; i++) {
            Due.is("feed " + i, x.feed(0, 0, 0, 0, 0), 20 * i);
        }
        Due.is("the 81st", x.feed(0, 0, 0, 0, 0), -1);
    }

    static void p02NoneBeyond1600() {
        for (int n : new int[] {1581, 1590, 1599, 1600}) {
            KeyInn x = withBytes(n);
            Due.is("feed behind " + n, x.feed(0, 0, 0, 0, 0), -1);
            Due.is("none came", x.count(6), n);
            Due.is("once more", x.feed(0, 0, 0, 0, 0), -1);
            Due.is("the text is as it was", x.inn(), 1);
        }
    }

    static void p02GoesOnBehindRefused() {
        KeyInn x = withBytes(1600);
        Due.is("full", x.feed(0, 0, 0, 0, 0), -1);
        Due.is("cut", x.end(1580), 1580);
        Due.is("room again", x.feed(BLANKS, BLANKS, BLANKS, BLANKS, BLANKS), 1600);
        Due.is("read", x.inn(), 1);
        Due.is("the tape is empty", x.feed(0, 0, 0, 0, 0), 20);
    }

    // ---- "The TAPE has its first n bytes alone: n" ----

    static void p03None() {
        KeyInn x = new KeyInn();
        Due.is("of an empty tape", x.end(0), 0);
        x.feed(0, 0, 0, 0, 0);
        Due.is("of twenty bytes", x.end(0), 0);
        Due.is("bytes", x.count(6), 0);
        Due.is("an empty text", x.inn(), 0);
    }

    static void p03AllOfThem() {
        KeyInn x = withBytes(1600);
        Due.is("all", x.end(1600), 1600);
        Due.is("it is read", x.inn(), 1);
    }

    static void p03FirstAlone() {
        KeyInn x = new KeyInn();
        Due.feed(x, HEAD + "key 0 1;");
        Due.is("the first line", x.end(21), 21);
        Due.is("bytes", x.count(6), 21);
        Due.is("lines", x.inn(), 1);
        Due.is("keys", x.count(2), 0);
    }

    static void p03WhatIsCutIsGone() {
        KeyInn x = new KeyInn();
        Due.feed(x, HEAD + "key 0 9;");
        x.end(21);
        Due.is("not so many now", x.end(22), -1);
        Due.feed(x, "key 0 2;");
        Due.is("others stand there", x.inn(), 2);
        Due.is("rooms of the key", x.key(0, 0), 5);
    }

    static void p03CutInsideToken() {
        KeyInn x = new KeyInn();
        Due.feed(x, "inn rooms 3 nights 14;");
        x.end(20);
        Due.feed(x, ";");
        Due.is("lines", x.inn(), 1);
        Due.is("nights", x.count(1), 1);
    }

    // ---- "NONE, and nothing happens, if it has not so many, or n is below 0" ----

    static void p03NotSoMany() {
        KeyInn x = new KeyInn();
        Due.is("of none", x.end(1), -1);
        Due.feed(x, HEAD);
        for (int n : new int[] {22, 40, 1600, 1601, Integer.MAX_VALUE}) {
            Due.is("end(" + n + ")", x.end(n), -1);
            Due.is("bytes", x.count(6), 21);
        }
        Due.is("the text is as it was", x.inn(), 1);
    }

    static void p03BelowZero() {
        KeyInn x = new KeyInn();
        Due.is("of none", x.end(-1), -1);
        Due.feed(x, HEAD);
        for (int n : new int[] {-1, -21, Integer.MIN_VALUE}) {
            Due.is("end(" + n + ")", x.end(n), -1);
            Due.is("bytes", x.count(6), 21);
        }
        Due.is("the text is as it was", x.inn(), 1);
    }

    // ---- "The TAPE (empty then) is the INN (in place of another): how many LINES" ----

    static void p04EmptyText() {
        KeyInn x = new KeyInn();
        Due.is("nothing", x.inn(), 0);
        asNoInn(x);
        Due.is("blanks alone", Due.tell(x, " \n\n  "), 0);
        asNoInn(x);
        Due.is("no fault", x.fault(0), 0);
        Due.is("no place", x.fault(1), -1);
    }

    static void p04EmptyTextInPlaceOfAnother() {
        KeyInn x = Due.inn(HEAD + "key 0 1;" + GUEST);
        x.book(0, 0, 0);
        x.theft(1, 1);
        x.lose(0, true);
        Due.is("nothing", x.inn(), 0);
        asNoInn(x);
    }

    static void p04LeastText() {
        KeyInn x = new KeyInn();
        Due.is("one line", Due.tell(x, "inn rooms 2 nights 1;"), 1);
        Due.is("lines", x.count(5), 1);
        Due.is("rooms", x.count(0), 2);
        Due.is("nights", x.count(1), 1);
    }

    static void p04FullTape() {
        StringBuilder text = new StringBuilder(HEAD + GUEST + GUEST);
        while (text.length() + 10 <= 1590) {
            text.append("trust 0 1;");
        }
        int lines = 3 + (text.length() - 77) / 10;
        while (text.length() < 1590) {
            text.append(' ');
        }
        text.append("trust 1 0;");
        KeyInn x = new KeyInn();
        Due.feed(x, text.toString());
        Due.is("bytes", x.count(6), 1600);
        Due.is("lines", x.inn(), lines + 1);
        Due.is("lines", x.count(5), lines + 1);
        Due.is("the last line holds", x.trusts(1, 0), 1);
    }

    static void p04MostOfAll() {
        KeyInn x = new KeyInn();
        Due.is("lines", Due.tell(x, KeyEdges.FULL), 30);
        Due.is("rooms", x.count(0), 10);
        Due.is("nights", x.count(1), 20);
        Due.is("keys", x.count(2), 12);
        Due.is("doors", x.count(3), 8);
        Due.is("guests", x.count(4), 9);
    }

    static void p04TapeIsEmptyThen() {
        KeyInn x = Due.inn(HEAD);
        Due.is("bytes", x.count(6), 0);
        Due.is("end(1)", x.end(1), -1);
        Due.is("feed", x.feed(0, 0, 0, 0, 0), 20);
    }

    static void p04InPlaceOfAnother() {
        KeyInn x = Due.inn(KeyEdges.FULL + "trust 0 1;trust 1 0;wants 0 9;");
        Due.is("a smaller one", Due.tell(x, "inn rooms 2 nights 1;key 0 1;guest from 0 to 0 luggage 0;"), 3);
        int[] due = {2, 1, 1, 0, 1, 3};
        for (int what = 0; what < due.length; what++) {
            Due.is("count(" + what + ")", x.count(what), due[what]);
        }
        Due.is("no more keys", x.key(1, 0), -2);
        Due.is("no more guests", x.guest(1, 0), -2);
        Due.is("no trust is left", Due.tell(x, "inn rooms 2 nights 1;" + GUEST.replace('1', '0').repeat(2)), 3);
        Due.is("no trust is left", x.trusts(0, 1) + x.trusts(1, 0), 0);
        Due.is("all rooms are wanted", x.guest(0, 5), 3);
    }

    static void p04NoWantsAreLeft() {
        KeyInn x = Due.inn(HEAD + GUEST + "wants 0 1;");
        Due.is("another one", Due.tell(x, HEAD + GUEST + "wants 0 2;"), 3);
        Due.is("wants", x.guest(0, 5), 4);
        Due.is("a faulty one", Due.tell(x, HEAD + GUEST + "wants 0 0;?"), -4);
        Due.is("another one", Due.tell(x, HEAD + GUEST + "wants 0 1;"), 3);
        Due.is("wants", x.guest(0, 5), 2);
    }

    // ---- "nobody is BOOKED, no KEY is LOST, no LOCK changed, there are no THEFTS, nobody was AWAY" ----

    private static KeyInn lived() {
        KeyInn x = Due.inn(HEAD + "key 0 1;key 1 2;" + GUEST + GUEST);
        x.book(0, 0, 0);
        x.lose(1, true);
        x.change(2);
        x.theft(2, 3);
        x.away(1, 0);
        return x;
    }

    private static KeyInn livedThenTold() {
        KeyInn x = lived();
        Due.is("told once more", Due.tell(x, HEAD + "key 0 1;key 1 2;" + GUEST + GUEST), 5);
        return x;
    }

    static void p04NobodyIsBooked() {
        KeyInn x = livedThenTold();
        Due.is("booked", x.count(7), 0);
        Due.is("room", x.guest(0, 0), -1);
        Due.is("key", x.guest(0, 1), -1);
        Due.is("nobody's", x.key(0, 10), -1);
    }

    static void p04NoKeyIsLost() {
        KeyInn x = livedThenTold();
        Due.is("lost", x.count(8), 0);
        Due.is("key", x.key(1, 1), 0);
        Due.is("open", x.open(), 0);
    }

    static void p04NoLockIsChanged() {
        KeyInn x = livedThenTold();
        Due.is("opens", x.key(1, 0), 6);
        Due.is("reach", x.reach(2), 6);
    }

    static void p04NoThefts() {
        KeyInn x = livedThenTold();
        Due.is("thefts", x.count(9), 0);
        Due.is("could(0)", x.could(0), -2);
        Due.is("all()", x.all(), 3);
    }

    static void p04NobodyWasAway() {
        KeyInn x = livedThenTold();
        Due.is("away", x.away(1, 0), 0);
    }

    static void p04RowsAndImagesStay() {
        KeyInn x = lived();
        x.row(2, 2, 1);
        x.keep(1);
        Due.is("another one", Due.tell(x, "inn rooms 2 nights 1;"), 1);
        Due.is("rows", x.count(10), 1);
        Due.is("back", x.back(1), 0);
        asLived(x);
    }

    // ---- "-4: a FAULT (all stays)" ----

    private static void asLived(KeyInn x) {
        int[] due = {3, 4, 2, 0, 2, 5};
        for (int what = 0; what < due.length; what++) {
            Due.is("count(" + what + ")", x.count(what), due[what]);
        }
        Due.is("booked", x.count(7), 1);
        Due.is("room", x.guest(0, 0), 0);
        Due.is("lost", x.count(8), 2);
        Due.is("changed", x.key(1, 0), 2);
        Due.is("reach", x.reach(2), 2);
        Due.is("thefts", x.count(9), 1);
        Due.is("away", x.away(1, 0), -5);
        Due.is("not away", x.away(0, 3), 0);
    }

    /** The fault comes at the start, in the middle, at the very end, or is the end. */
    static void p04FaultAllStays() {
        String other = "inn rooms 9 nights 9;key 7 8;key 3 5 6;door 4 to 5;guest from 8 to 8 luggage 1;wants 0 7;";
        for (String text : new String[] {"x", "inn rooms 11 nights 4;", other + "?", other + "key 1 2", other + "trust 0 1;"}) {
            KeyInn x = lived();
            Due.is("inn() of " + text, Due.tell(x, text), -4);
            asLived(x);
        }
    }

    static void p04FaultRowsAndImagesStay() {
        KeyInn x = lived();
        x.keep(2);
        x.row(1, 1, 3);
        Due.is("a fault", Due.tell(x, "inn"), -4);
        Due.is("rows", x.count(10), 1);
        Due.is("judge", x.judge(1), 0);
        Due.is("back", x.back(2), 0);
        asLived(x);
    }

    static void p04FaultOnNewObject() {
        KeyInn x = new KeyInn();
        Due.is("a fault", Due.tell(x, HEAD + "key 0 1;" + GUEST + "?"), -4);
        asNoInn(x);
    }

    /** The runs under ../shared/tests tell a text behind a faulty one with no end(0) between them. */
    static void p04TapeIsEmptyBehindFault() {
        KeyInn x = new KeyInn();
        Due.is("a fault", Due.tell(x, "inn rooms 3"), -4);
        Due.is("bytes", x.count(6), 0);
        Due.is("feed", x.feed(0, 0, 0, 0, 0), 20);
        Due.is("end", x.end(0), 0);
        Due.is("another text", Due.tell(x, HEAD), 1);
    }

    // ---- "Of the latest inn(), what 0: its FAULT, 0 without, 1: its place (NONE without)" ----

    static void p05AheadOfAny() {
        KeyInn x = new KeyInn();
        Due.is("what 0", x.fault(0), 0);
        Due.is("what 1", x.fault(1), -1);
        Due.feed(x, "?");
        Due.is("what 0, not read yet", x.fault(0), 0);
        Due.is("what 1, not read yet", x.fault(1), -1);
    }

    static void p05Without() {
        KeyInn x = Due.inn(HEAD);
        Due.is("what 0", x.fault(0), 0);
        Due.is("what 1", x.fault(1), -1);
    }

    static void p05LeastPlace() {
        KeyInn x = new KeyInn();
        Due.is("a fault", Due.tell(x, "?"), -4);
        Due.is("what 0", x.fault(0), 1);
        Due.is("what 1", x.fault(1), 0);
    }

    static void p05GreatestPlace() {
        String blanks = " ".repeat(1600 - HEAD.length() - 3);
        KeyInn x = new KeyInn();
        Due.is("its last byte", Due.tell(x, HEAD + blanks + "  ?"), -4);
        Due.is("what 0", x.fault(0), 1);
        Due.is("what 1", x.fault(1), 1599);
        Due.is("its end", Due.tell(x, HEAD + blanks + "key"), -4);
        Due.is("what 0", x.fault(0), 1);
        Due.is("what 1", x.fault(1), 1600);
    }

    static void p05OfTheLatest() {
        KeyInn x = Due.inn(HEAD);
        Due.is("a fault", Due.tell(x, "inn rooms 1"), -4);
        Due.is("what 0", x.fault(0), 2);
        Due.is("what 1", x.fault(1), 10);
        Due.is("another fault", Due.tell(x, "inn ;"), -4);
        Due.is("what 0", x.fault(0), 1);
        Due.is("what 1", x.fault(1), 4);
        Due.is("none", Due.tell(x, HEAD), 1);
        Due.is("what 0", x.fault(0), 0);
        Due.is("what 1", x.fault(1), -1);
    }

    static void p05StaysUntilTheNext() {
        KeyInn x = Due.inn(HEAD);
        x.keep(0);
        Due.tell(x, "inn rooms 1");
        Due.feed(x, HEAD);
        x.back(0);
        x.theft(0, 0);
        Due.is("what 0", x.fault(0), 2);
        Due.is("what 1", x.fault(1), 10);
    }

    // ---- "NONE for another what" ----

    static void p05AnotherWhat() {
        for (String text : new String[] {null, "", HEAD, "inn rooms 1"}) {
            KeyInn x = new KeyInn();
            if (text != null) {
                Due.tell(x, text);
            }
            for (int what : new int[] {-1, 2, 3, 32, 33, 256, Integer.MIN_VALUE, Integer.MIN_VALUE + 1, Integer.MAX_VALUE}) {
                Due.is("fault(" + what + ") of " + text, x.fault(what), -1);
            }
        }
    }
}
