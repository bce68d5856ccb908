/** Promises 1 to 5: the tape, the text, its faults. */
public final class TextTest {
    private static final String HEAD = "inn rooms 3 nights 4;";
    private static final String GUEST = "guest from 0 to 1 luggage 5;";

    public static void main(String[] args) {
        newObject();
        tape();
        goodTexts();
        faults();
        bounds();
        faultKeepsAll();
        Due.finish();
    }

    private static void newObject() {
        KeyInn x = new KeyInn();
        for (int what = 0; what <= 10; what++) {
            Due.is("new count(" + what + ")", x.count(what), 0);
        }
        Due.is("new fault(0)", x.fault(0), 0);
        Due.is("new fault(1)", x.fault(1), -1);
        Due.is("new fault(2)", x.fault(2), -1);
        Due.is("new fault(-1)", x.fault(-1), -1);
        Due.is("new reach(0)", x.reach(0), -2);
        Due.is("new open()", x.open(), -2);
        Due.is("new calm()", x.calm(), -2);
        Due.is("new back(0)", x.back(0), -6);
    }

    private static void tape() {
        KeyInn x = new KeyInn();
        Due.is("end(0)", x.end(0), 0);
        Due.is("end(1)", x.end(1), -1);
        for (int i = 1; i <= 79; i++) {
            Due.is("feed " + i, x.feed(0, 0, 0, 0, 0), 20 * i);
        }
        Due.is("end(1579)", x.end(1579), 1579);
        Due.is("feed to 1599", x.feed(0, 0, 0, 0, 0), 1599);
        Due.is("feed beyond", x.feed(0, 0, 0, 0, 0), -1);
        Due.is("bytes", x.count(6), 1599);
        Due.is("end(1580)", x.end(1580), 1580);
        Due.is("feed to 1600", x.feed(0, 0, 0, 0, 0), 1600);
        Due.is("feed when full", x.feed(0, 0, 0, 0, 0), -1);
        Due.is("end(1601)", x.end(1601), -1);
        Due.is("end(-1)", x.end(-1), -1);
        Due.is("end(min)", x.end(Integer.MIN_VALUE), -1);
        Due.is("bytes stay", x.count(6), 1600);
        Due.is("end(0)", x.end(0), 0);
        Due.is("bytes gone", x.count(6), 0);
        // "inn rooms 3 nights 4;" by hand, the highest byte first
        x.feed(0x696e6e20, 0x726f6f6d, 0x73203320, 0x6e696768, 0x74732034);
        x.feed(0x3b202020, 0x20202020, 0x20202020, 0x20202020, 0x20202020);
        Due.is("inn() of bytes", x.inn(), 1);
        Due.is("rooms", x.count(0), 3);
        Due.is("nights", x.count(1), 4);
        Due.is("the tape is empty", x.count(6), 0);
    }

    private static void goodTexts() {
        good("", 0, 0, 0);
        good(" \n \n", 0, 0, 0);
        good(HEAD, 1, 0, 0);
        good("inn rooms3nights4;key0 1;key 1 2 0;door 0to 2;", 4, 2, 0);
        good("\ninn\nrooms 0003 nights\n004 ; key 0 00000000000000000000001 ;", 2, 1, 0);
        good("inn rooms 2 nights 1;guest from 0 to 0 luggage 0;guest from 0 to 0 luggage 99;trust 0 1 1;trust 0 1;", 5, 0, 2);
        good("inn rooms 10 nights 20;key 9 0;guest from 19 to 19 luggage 1;wants 0 9 9;wants 0 0;", 5, 1, 1);
        KeyInn x = Due.inn(HEAD + GUEST + GUEST + "wants 1 2;wants 1 0 2;trust 1 0;");
        Due.is("wants without", x.guest(0, 5), 7);
        Due.is("wants of two lines", x.guest(1, 5), 5);
        Due.is("trusts", x.trusts(1, 0), 1);
        Due.is("trusts back", x.trusts(0, 1), 0);
        Due.is("no fault", x.fault(0), 0);
        Due.is("no place", x.fault(1), -1);
        Due.is("an empty text", x.inn(), 0);
        for (int what = 0; what < 6; what++) {
            Due.is("is no inn: count(" + what + ")", x.count(what), 0);
        }
        Due.is("has no nights", x.bare(0), -2);
        Due.is("has no guests", x.guest(0, 0), -2);
    }

    private static void good(String text, int lines, int keys, int guests) {
        KeyInn x = new KeyInn();
        Due.is("lines of " + text, Due.tell(x, text), lines);
        Due.is("fault of " + text, x.fault(0), 0);
        Due.is("lines kept of " + text, x.count(5), lines);
        Due.is("keys of " + text, x.count(2), keys);
        Due.is("guests of " + text, x.count(4), guests);
    }

    private static void faults() {
        bad("inn rooms 3", 1, 11);
        bad("inn rooms 3 nights 4 \n ", 1, 23);
        bad("key 0 1;", 1, 0);
        bad(";", 1, 0);
        bad(" 3", 1, 1);
        bad("Inn rooms 3 nights 4;", 1, 0);
        bad("innrooms 3 nights 4;", 1, 0);
        bad(HEAD + "inn", 1, 21);
        bad(HEAD + ";", 1, 21);
        bad(HEAD + "rooms 3;", 1, 21);
        bad(HEAD + "hey 0 1;", 1, 21);
        bad(HEAD + "keyz 0 1;", 1, 21);
        bad(HEAD + "ke 0 1;", 1, 21);
        bad(HEAD + "\tkey 0 1;", 1, 21);
        bad(HEAD + "key 0 3", 2, 27);
        bad(HEAD + "key 1 1", 2, 27);
        bad(HEAD + "key 0;", 1, 26);
        bad(HEAD + "key 0 1 1", 2, 29);
        bad(HEAD + "key 0 1 2 2;", 1, 31);
        bad(HEAD + "key 0 1,", 1, 28);
        bad(HEAD + "key 0 1", 1, 28);
        bad(HEAD + "key 0 99999999999999999999;", 2, 27);
        bad(HEAD + "door 0 to 0", 2, 31);
        bad(HEAD + "door 0 1;", 1, 28);
        bad(HEAD + "door 0 to 3;", 2, 31);
        bad(HEAD + "guest from 2 to 1 luggage 5;", 2, 37);
        bad(HEAD + "guest from 4 to 4 luggage 5;", 2, 32);
        bad(HEAD + "guest from 0 to 4 luggage 5;", 2, 37);
        bad(HEAD + "guest from 0 to 1 luggage 100", 2, 47);
        bad(HEAD + "guest to 0 from 1 luggage 10;", 1, 27);
        bad(HEAD + "trust 0 1", 2, 27);
        bad(HEAD + "wants 0 1;" + GUEST, 2, 27);
        bad(HEAD + GUEST + "trust 0 0;", 2, 57);
        bad(HEAD + GUEST + "trust 0 1;", 2, 57);
        bad(HEAD + GUEST + GUEST + "trust 0 1 0;", 2, 87);
        bad(HEAD + GUEST + GUEST + "trust 1 0 0 2;", 2, 89);
        bad(HEAD + GUEST + "trust 0;", 1, 56);
        bad(HEAD + GUEST + "wants 0;", 1, 56);
        bad(HEAD + GUEST + "wants 0 3;", 2, 57);
        bad(HEAD + GUEST + "wants 0 1 3;", 2, 59);
        bad(HEAD + "key 0 \u00e4;", 1, 27);
        bad(HEAD + "key 0 \u0000;", 1, 27);
    }

    private static void bounds() {
        bad("inn rooms 1 nights 4;", 2, 10);
        bad("inn rooms 11 nights 4;", 2, 10);
        bad("inn rooms 3 nights 0;", 2, 19);
        bad("inn rooms 3 nights 21;", 2, 19);
        String keys = HEAD + "key 0 1;".repeat(12);
        good(keys, 13, 12, 0);
        bad(keys + "key", 3, 117);
        bad(keys + "key 0 9;", 3, 117);
        String doors = HEAD + "door 0 to 1;".repeat(8);
        good(doors, 9, 0, 0);
        bad(doors + "door 9", 3, 117);
        String guests = HEAD + GUEST.repeat(9);
        good(guests, 10, 0, 9);
        bad(guests + " guest", 3, 274);
    }

    private static void bad(String text, int fault, int place) {
        KeyInn x = new KeyInn();
        Due.is("inn() of " + text, Due.tell(x, text), -4);
        Due.is("fault of " + text, x.fault(0), fault);
        Due.is("place of " + text, x.fault(1), place);
        Due.is("fault(2)", x.fault(2), -1);
        Due.is("no inn by " + text, x.count(0), 0);
    }

    private static void faultKeepsAll() {
        KeyInn x = Due.inn(HEAD + "key 0 1;" + GUEST);
        x.book(0, 1, 0);
        x.theft(0, 0);
        x.away(0, 3);
        x.lose(0, true);
        x.change(0);
        Due.is("a fault", Due.tell(x, HEAD + "key 9 1;"), -4);
        Due.is("lines stay", x.count(5), 3);
        Due.is("booked stays", x.count(7), 1);
        Due.is("lost stays", x.count(8), 1);
        Due.is("thefts stay", x.count(9), 1);
        Due.is("locks stay", x.key(0, 0), 2);
        Due.is("away stays", x.away(0, 3), -5);
        Due.is("the tape is empty", x.count(6), 0);
        Due.is("at its place", x.fault(1), 25);
        Due.is("another text, without a fault", Due.tell(x, HEAD + "key 0 1;" + GUEST), 3);
        Due.is("then the tape is empty", x.count(6), 0);
        Due.is("nobody is booked", x.count(7), 0);
        Due.is("nothing is lost", x.count(8), 0);
        Due.is("no lock is changed", x.key(0, 0), 3);
        Due.is("no thefts", x.count(9), 0);
        Due.is("nobody was away", x.away(0, 3), 0);
        Due.is("no fault now", x.fault(0), 0);
        Due.is("no place now", x.fault(1), -1);
    }
}
