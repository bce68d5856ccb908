import java.util.ArrayList;
import java.util.List;

/** Edges of promises 4 and 5 by Terms I: tokens, bounds of numbers, faults and their places. */
final class FaultEdges {
    private static final String HEAD = TextEdges.HEAD;
    private static final String GUEST = TextEdges.GUEST;

    private FaultEdges() {
    }

    private static KeyInn good(String text, int lines) {
        KeyInn x = new KeyInn();
        Due.is("inn() of " + text, Due.tell(x, text), lines);
        Due.is("fault of " + text, x.fault(0), 0);
        Due.is("place of " + text, x.fault(1), -1);
        return x;
    }

    private static void bad(String text, int fault, int place) {
        KeyInn x = new KeyInn();
        Due.is("inn() of " + text, Due.tell(x, text), -4);
        Due.is("fault of " + text, x.fault(0), fault);
        Due.is("place of " + text, x.fault(1), place);
    }

    /** A text with a mark, | , at the place of its fault. */
    private static void marked(String text, int fault) {
        bad(text.replace("|", ""), fault, text.indexOf('|'));
    }

    // ---- "inn is the first LINE and no other" ----

    static void p04InnIsFirst() {
        for (String line : new String[] {"key 0 1;", "door 0 to 1;", GUEST, "trust 0 1;", "wants 0 1;"}) {
            marked("|" + line + HEAD, 1);
        }
        marked(" \n|rooms 3 nights 4;", 1);
        marked("|3;", 1);
        marked("|;" + HEAD, 1);
    }

    static void p04InnIsNoOther() {
        marked(HEAD + "|" + HEAD, 1);
        marked(HEAD + "key 0 1;|inn", 1);
        marked(HEAD + GUEST + "|inn rooms 99", 1);
    }

    static void p04NoEmptyLine() {
        marked(HEAD + "|;", 1);
        marked(HEAD + "key 0 1;|;", 1);
    }

    // ---- "rooms 2 .. 10, nights 1 .. 20" ----

    static void p04Rooms() {
        marked("inn rooms |0 nights 4;", 2);
        marked("inn rooms |1 nights 4;", 2);
        Due.is("2", good("inn rooms 2 nights 4;", 1).count(0), 2);
        Due.is("10", good("inn rooms 10 nights 4;", 1).count(0), 10);
        marked("inn rooms |11 nights 4;", 2);
    }

    static void p04Nights() {
        marked("inn rooms 3 nights |0;", 2);
        Due.is("1", good("inn rooms 3 nights 1;", 1).count(1), 1);
        Due.is("20", good("inn rooms 3 nights 20;", 1).count(1), 20);
        marked("inn rooms 3 nights |21;", 2);
    }

    // ---- "R: ROOMS 0 .. rooms less 1, those of a key, a door unlike" ----

    static void p04RoomsOfKeys() {
        Due.is("0 and 2", good(HEAD + "key 0 2;", 2).key(0, 0), 5);
        Due.is("2 and 0", good(HEAD + "key 2 0;", 2).key(0, 0), 5);
        Due.is("all three", good(HEAD + "key 2 0 1;", 2).key(0, 0), 7);
        Due.is("0 as the third", good(HEAD + "key 2 1 0;", 2).key(0, 0), 7);
        marked(HEAD + "key |3 0;", 2);
        marked(HEAD + "key 0 |3;", 2);
        marked(HEAD + "key 0 1 |3;", 2);
        Due.is("9 of ten", good("inn rooms 10 nights 1;key 9 0;", 2).key(0, 0), 513);
        marked("inn rooms 10 nights 1;key |10 0;", 2);
        marked("inn rooms 2 nights 1;key 0 |2;", 2);
    }

    static void p04RoomsOfKeyUnlike() {
        marked(HEAD + "key 0 |0;", 2);
        marked(HEAD + "key 2 |2;", 2);
        marked(HEAD + "key 0 1 |0;", 2);
        marked(HEAD + "key 0 1 |1;", 2);
        marked(HEAD + "key 1 |01;", 2);
    }

    static void p04TwoOrThreeRoomsOfKey() {
        marked(HEAD + "key |;", 1);
        marked(HEAD + "key 0|;", 1);
        marked("inn rooms 4 nights 1;key 0 1 2 |3;", 1);
        marked(HEAD + "key 0 1 2 |0;", 1);
    }

    static void p04RoomsOfDoors() {
        Due.is("0 to 2", good(HEAD + "key 0 1;door 0 to 2;", 3).reach(1), 7);
        Due.is("2 to 0", good(HEAD + "key 0 1;door 2 to 0;", 3).reach(1), 7);
        marked(HEAD + "door |3 to 0;", 2);
        marked(HEAD + "door 0 to |3;", 2);
        marked(HEAD + "door 0 to |0;", 2);
        marked(HEAD + "door 2 to |2;", 2);
        marked(HEAD + "door 0 to 1 |2;", 1);
        Due.is("one twice is two", good(HEAD + "door 0 to 1;door 1 to 0;", 3).count(3), 2);
    }

    static void p04RoomsOfWants() {
        Due.is("2", good(HEAD + GUEST + "wants 0 2;", 3).guest(0, 5), 4);
        Due.is("0", good(HEAD + GUEST + "wants 0 0;", 3).guest(0, 5), 1);
        Due.is("one twice", good(HEAD + GUEST + "wants 0 1 1;", 3).guest(0, 5), 2);
        Due.is("0 behind another", good(HEAD + GUEST + "wants 0 1 0;", 3).guest(0, 5), 3);
        marked(HEAD + GUEST + "wants 0 |3;", 2);
        marked(HEAD + GUEST + "wants 0 0 1 2 |3;", 2);
        marked(HEAD + GUEST + "wants 0|;", 1);
    }

    // ---- "from, to 0 .. nights less 1, to not below from; luggage 0 .. 99" ----

    static void p04From() {
        Due.is("0", good(HEAD + "guest from 0 to 3 luggage 1;", 2).guest(0, 2), 0);
        Due.is("3", good(HEAD + "guest from 3 to 3 luggage 1;", 2).guest(0, 2), 3);
        marked(HEAD + "guest from |4 to 4 luggage 1;", 2);
        Due.is("19", good("inn rooms 2 nights 20;guest from 19 to 19 luggage 1;", 2).guest(0, 2), 19);
        marked("inn rooms 2 nights 20;guest from |20 to 19 luggage 1;", 2);
    }

    static void p04To() {
        Due.is("0", good(HEAD + "guest from 0 to 0 luggage 1;", 2).guest(0, 3), 0);
        Due.is("3", good(HEAD + "guest from 0 to 3 luggage 1;", 2).guest(0, 3), 3);
        marked(HEAD + "guest from 0 to |4 luggage 1;", 2);
        marked("inn rooms 2 nights 1;guest from 0 to |1 luggage 1;", 2);
    }

    static void p04ToNotBelowFrom() {
        Due.is("the same", good(HEAD + "guest from 2 to 2 luggage 1;", 2).guest(0, 3), 2);
        marked(HEAD + "guest from 2 to |1 luggage 1;", 2);
        marked(HEAD + "guest from 3 to |0 luggage 1;", 2);
    }

    static void p04Luggage() {
        Due.is("0", good(HEAD + "guest from 0 to 0 luggage 0;", 2).guest(0, 4), 0);
        Due.is("99", good(HEAD + "guest from 0 to 0 luggage 99;", 2).guest(0, 4), 99);
        marked(HEAD + "guest from 0 to 0 luggage |100;", 2);
    }

    // ---- "G: a GUEST told ahead; trust: .. (not himself; more than one line may tell it)" ----

    static void p04GuestToldAhead() {
        good(HEAD + GUEST + GUEST + "trust 0 1;trust 1 0;wants 1 0;", 6);
        marked(HEAD + "trust |0 1;" + GUEST + GUEST, 2);
        marked(HEAD + GUEST + "trust 0 |1;" + GUEST, 2);
        marked(HEAD + GUEST + "trust |1 0;" + GUEST, 2);
        marked(HEAD + GUEST + GUEST + "trust 0 1 |2;", 2);
        marked(HEAD + "wants |0 1;" + GUEST, 2);
        marked(HEAD + GUEST + "wants |1 1;" + GUEST, 2);
        good(HEAD + GUEST.repeat(9) + "trust 8 0;trust 0 8;wants 8 2;", 13);
        marked(HEAD + GUEST.repeat(9) + "trust 8 |9;", 2);
    }

    static void p04NotHimself() {
        marked(HEAD + GUEST + "trust 0 |0;", 2);
        marked(HEAD + GUEST + GUEST + "trust 0 1 |0;", 2);
        marked(HEAD + GUEST + GUEST + "trust 1 |1 0;", 2);
        marked(HEAD + GUEST + GUEST + "trust 1 0 0 |1;", 2);
    }

    static void p04TrustsOneAtLeast() {
        marked(HEAD + GUEST + "trust 0|;", 1);
        marked(HEAD + GUEST + "trust |;", 1);
    }

    static void p04TrustOfSeveralLines() {
        KeyInn x = good(HEAD + GUEST.repeat(3) + "trust 0 1;trust 0 2;", 6);
        Due.is("1", x.trusts(0, 1), 1);
        Due.is("2", x.trusts(0, 2), 1);
        Due.is("not back", x.trusts(1, 0), 0);
        x = good(HEAD + GUEST.repeat(3) + "trust 0 1;trust 0 1 1;", 6);
        Due.is("once more", x.trusts(0, 1), 1);
        Due.is("not 2", x.trusts(0, 2), 0);
    }

    static void p04WantsOfSeveralLines() {
        KeyInn x = good(HEAD + GUEST.repeat(3) + "wants 0 1;wants 2 0;wants 0 2;", 7);
        Due.is("two lines", x.guest(0, 5), 6);
        Due.is("without", x.guest(1, 5), 7);
        Due.is("one line", x.guest(2, 5), 1);
    }

    // ---- "12 KEYS, 8 DOORS, 9 GUESTS at most, numbered as they stand" ----

    static void p04TwelveKeys() {
        String twelve = HEAD + "key 0 1;".repeat(11) + "key 1 2;";
        Due.is("the twelfth", good(twelve, 13).key(11, 0), 6);
        marked(twelve + "|key", 3);
        marked(twelve + "|key 0 1;", 3);
        marked(twelve + GUEST + " |key 0 9;", 3);
    }

    static void p04EightDoors() {
        String eight = HEAD + "door 0 to 1;".repeat(8);
        Due.is("doors", good(eight, 9).count(3), 8);
        marked(eight + "|door", 3);
        marked(eight + "key 0 1; |door 0 to 1;", 3);
    }

    static void p04NineGuests() {
        String nine = HEAD + GUEST.repeat(8) + "guest from 2 to 3 luggage 7;";
        Due.is("the ninth", good(nine, 10).guest(8, 4), 7);
        marked(nine + "|guest", 3);
        marked(nine + "trust 8 0;\n|guest from 0 to 1 luggage 5;", 3);
    }

    // ---- "TOKENS, blanks (32, 10) aside, the longest: words (a .. z), numbers (digits), the sign ;" ----

    static void p04Blanks() {
        good("\n \ninn\n\nrooms  3\nnights 4 ; \n", 1);
        for (int sign = 0; sign < 256; sign++) {
            if (sign != 32 && sign != 10) {
                boolean isToken = sign == ';' || sign >= 'a' && sign <= 'z' || sign >= '0' && sign <= '9';
                String text = HEAD + (char) sign + HEAD;
                if (!isToken) {
                    bad(text, 1, 21);
                }
            }
        }
    }

    static void p04NoTokenAtTheEnds() {
        // The signs beside a .. z, beside 0 .. 9 and beside the sign ; .
        for (char sign : new char[] {'a' - 1, 'z' + 1, '0' - 1, '9' + 1, ';' + 1, 'A', 'Z', 31, 33, 9, 11, 13, 0, 127, 128, 160, 255}) {
            bad(HEAD + "key 0 1" + sign, 1, 28);
            bad(HEAD + "key 0" + sign + "1;", 1, 26);
            bad(HEAD + "key" + sign + "0 1;", 1, 24);
            bad("inn" + sign, 1, 3);
        }
    }

    static void p04Words() {
        marked("|in rooms 3 nights 4;", 1);
        marked("|innn rooms 3 nights 4;", 1);
        marked("inn |room 3 nights 4;", 1);
        marked("inn |roomss 3 nights 4;", 1);
        marked("inn rooms 3 |zights 4;", 1);
        marked(HEAD + "|keys 0 1;", 1);
        marked(HEAD + "|keya 0 1;", 1);
        marked(HEAD + "|keyz 0 1;", 1);
        marked(HEAD + "|azaz", 1);
        marked(HEAD + "|in", 1);
        marked(HEAD + "|want 0 1;", 1);
    }

    static void p04TheLongest() {
        KeyInn x = good("inn rooms3nights4;key0 1;door2to0;guest from0to1luggage5;", 4);
        Due.is("words by numbers", x.guest(0, 4), 5);
        Due.is("12 is one number", good("inn rooms 3 nights 12;", 1).count(1), 12);
        marked("|innrooms 3 nights 4;", 1);
        marked(HEAD + "key |12;", 2);
        marked(HEAD + "door 0 |tolmen 1;", 1);
        marked(HEAD + "key 0 1;|;", 1);
    }

    static void p04LeadingZeros() {
        KeyInn x = good("inn rooms 00000000000000000000003 nights 0000004;key 00 000000000000000000000002;", 2);
        Due.is("rooms", x.count(0), 3);
        Due.is("nights", x.count(1), 4);
        Due.is("key", x.key(0, 0), 5);
    }

    /** Numbers that would be right if they were cut to 8, 16, 32 or 64 bits. */
    static void p04NumbersDoNotWrap() {
        for (String three : new String[] {"259", "65539", "4294967299", "2147483651", "18446744073709551619", "36893488147419103235",
            "340282366920938463463374607431768211459", "1000000000000000000000000000000003"}) {
            marked("inn rooms |" + three + " nights 4;", 2);
            marked("inn rooms 3 nights |" + three + ";", 2);
            marked("inn rooms 4 nights 4;key 0 |" + three + ";", 2);
            marked("inn rooms 4 nights 4;guest from 0 to 0 luggage |" + three + ";", 2);
        }
        marked("inn rooms |" + "9".repeat(1500), 2);
    }

    // ---- "FAULTS, the first by its place (a TOKEN's first byte; the end's), of one place the least" ----

    static void p05FirstByItsPlace() {
        marked("inn rooms |1 nights 0;key", 2);
        marked(HEAD + "key 0 |0 ?", 2);
        marked(HEAD + "key 0 |? 0", 1);
        marked(HEAD + "key 0 1;".repeat(12) + "|key ?", 3);
        marked(HEAD + "key 0 1;".repeat(11) + "key 0 |3;key", 2);
    }

    static void p05OfOnePlaceTheLeast() {
        // A number that can't stand there, and is out of its bounds.
        marked(HEAD + "key 0 1 2 |99;", 1);
        marked(HEAD + "door 0 to 1 |3;", 1);
        marked(HEAD + "guest |99", 1);
        // A word that can't stand there, and would be the 13th key, the 9th door, the 10th guest.
        marked(HEAD + "key 0 1;".repeat(11) + "key 0 1 |key", 1);
        marked(HEAD + "door 0 to 1;".repeat(7) + "door 0 to 1 |door", 1);
        marked(HEAD + GUEST.repeat(8) + "guest from 0 to 1 luggage 1 |guest", 1);
    }

    static void p05FirstByteOfToken() {
        marked(HEAD + "\n\n  |foo;", 1);
        marked("inn rooms    |0011 nights", 2);
        marked(HEAD + "key 0 1;".repeat(12) + "   |key", 3);
    }

    static void p05TheEnd() {
        marked("inn|", 1);
        marked("inn rooms 3 nights 4|", 1);
        marked("inn rooms 3 nights 4 \n |", 1);
        marked(HEAD + "key 0 1|", 1);
    }

    private static final String[] LINES = {"inn rooms 3 nights 4 ;", "key 0 1 2 ;", "door 0 to 1 ;", "guest from 0 to 1 luggage 5 ;",
        "trust 0 1 2 ;", "wants 0 1 2 ;"};
    /** Of each line how many tokens must stand ahead of its sign ; . */
    private static final int[] NEEDED = {5, 3, 4, 7, 3, 3};

    private static String aheadOf(int line) {
        return line == 0 ? "" : HEAD + GUEST.repeat(3);
    }

    private static List<String> tokensOf(String line) {
        return new ArrayList<>(List.of(line.split(" ")));
    }

    /** Each line, ended behind each of its tokens but the last: the end is the fault. */
    static void p05EndInEachLine() {
        for (int l = 0; l < LINES.length; l++) {
            List<String> tokens = tokensOf(LINES[l]);
            StringBuilder text = new StringBuilder(aheadOf(l));
            for (int t = 0; t < tokens.size() - 1; t++) {
                text.append(tokens.get(t));
                bad(text.toString(), 1, text.length());
                text.append(' ');
                bad(text.toString(), 1, text.length());
            }
            good(text.append(';').toString(), l == 0 ? 1 : 5);
        }
    }

    /** Each line with another word, a wrong sign or a missing token in each place. */
    static void p05WrongTokenInEachLine() {
        for (int l = 0; l < LINES.length; l++) {
            List<String> tokens = tokensOf(LINES[l]);
            StringBuilder text = new StringBuilder(aheadOf(l));
            for (int t = 0; t < tokens.size(); t++) {
                String rest = String.join(" ", tokens.subList(t, tokens.size()));
                bad(text + "foo " + rest, 1, text.length());
                bad(text + "? " + rest, 1, text.length());
                if (t < NEEDED[l]) {
                    bad(text + "; " + rest, 1, text.length());
                }
                boolean mayGoOn = l >= 4 && t >= NEEDED[l];
                if (!tokens.get(t).matches("\\d") && !mayGoOn) {
                    bad(text + "0 " + rest, 1, text.length());
                }
                text.append(tokens.get(t)).append(' ');
            }
        }
    }
}
