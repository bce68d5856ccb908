/** Promises 48 to 51: rows judged as bookings, and seasons drawn. */
public final class ThoughtTest {
    private static final String GUEST = "guest from 0 to 1 luggage 1;";
    /** Guest 0 has two ways: by key 0 he leaves nothing to guest 1, who wants room 1. */
    private static final String EITHER = "inn rooms 4 nights 1;key 0 1;key 0 2;guest from 0 to 0 luggage 1;"
            + "guest from 0 to 0 luggage 1;wants 0 0;wants 1 1;trust 0 1;";
    private static final String TEXT = "inn rooms 6 nights 2;key 0 1;key 2 3;key 4 5;key 1 2;" + GUEST.repeat(4) + "wants 3 1;";

    public static void main(String[] args) {
        judging();
        widths();
        seasons();
        draws();
        Due.finish();
    }

    private static void judging() {
        KeyInn x = Due.inn(TEXT);
        Due.is("nothing", x.judge(0), -6);
        Due.is("nothing", x.then(0, 0), -6);
        x.row(0, 2, 5);
        x.row(1, 0, 0);
        Due.is("no numbers", x.judge(1), 0);
        Due.is("no numbers", x.then(1, 0), 0);
        x.book(3, 1, 3);
        Due.is("nobody behind an empty row", x.then(1, 0), 0);
        Due.is("guest 0 behind the other", x.then(0, 0), 1);
        x.off(3);
        Due.is("guest 0 alone, then he is booked", x.judge(0), 1);
        x.write(0, 1, 10201);
        x.write(0, 2, 30103);
        Due.is("three", x.judge(0), 3);
        // 1 and 3: key 3 opens room 2; 0 and 3: key 0 opens room 1.
        Due.is("pairs then", x.then(0, 0), 2);
        x.write(0, 3, 20502);
        Due.is("four", x.judge(0), 4);
        x.write(0, 1, 10301);
        Due.is("pairs then", x.then(0, 1), 1);
        x.write(0, 1, 10101);
        Due.is("the key does not open", x.judge(0), 1);
        x.write(0, 1, 10001);
        Due.is("the room is taken", x.judge(0), 1);
        x.write(0, 1, 40201);
        Due.is("no such guest", x.judge(0), 1);
        x.write(0, 1, 10601);
        Due.is("no such room", x.judge(0), 1);
        x.write(0, 1, 10204);
        Due.is("no such key", x.judge(0), 1);
        x.write(0, 1, -1);
        Due.is("below 0", x.judge(0), 1);
        x.write(0, 1, 30203);
        Due.is("does not want", x.judge(0), 1);
        Due.is("in thought", x.count(7), 0);
        x.book(0, 0, 0);
        Due.is("who is booked", x.judge(0), 0);
        Due.is("no such slot", x.judge(4), -2);
        Due.is("no such slot", x.judge(-1), -2);
        Due.is("no such slot", x.then(4, 0), -2);
        Due.is("no such night", x.then(0, 2), -2);
        Due.is("no such night, nothing", x.then(2, 2), -2);
        x.inn();
        Due.is("no inn", x.judge(0), -2);
        Due.is("no inn, nothing", x.judge(2), -2);
    }

    private static void widths() {
        KeyInn x = Due.inn(TEXT);
        for (int width = 0; width < 4; width++) {
            x.row(0, width, 1);
            x.write(0, 0, 0x7654321000000000L + 20502);
            // Cut to a byte 20502 is 22; to two, four bytes it is itself; eight bytes keep all.
            Due.is("judge of width " + width, x.judge(0), width == 1 || width == 2 ? 1 : 0);
            x.write(0, 0, 20502);
            Due.is("judge of width " + width, x.judge(0), width == 0 ? 0 : 1);
            x.write(0, 0, (1L << (4 << width) << (4 << width)) + 100);
            Due.is("judge of 100, width " + width, x.judge(0), 1);
        }
        x.row(1, 0, 1);
        x.write(1, 0, 201);
        Due.is("a byte's 201 is below 0", x.judge(1), 0);
        x.row(1, 1, 1);
        x.write(1, 0, 40000 - 65536);
        Due.is("two bytes below 0", x.judge(1), 0);
        x.row(1, 3, 1);
        x.write(1, 0, Long.MAX_VALUE);
        Due.is("the highest", x.judge(1), 0);
        x.write(1, 0, 10000L << 32);
        Due.is("a guest beyond all", x.judge(1), 0);
        x.write(1, 0, 1L << 32);
        Due.is("beyond four bytes", x.judge(1), 0);
        x.write(1, 0, Long.MIN_VALUE);
        Due.is("the lowest", x.judge(1), 0);
    }

    private static void seasons() {
        KeyInn x = Due.inn(EITHER);
        Due.is("seed -1", x.season(-1), -2);
        Due.is("seed too high", x.season(2000000001), -2);
        Due.is("seasons seed -1", x.seasons(-1, 1, 0), -2);
        Due.is("seasons n 0", x.seasons(0, 0, 0), -2);
        Due.is("seasons n 0", x.seasons(5, 0, 0), -2);
        Due.is("seasons n -1", x.seasons(5, -1, 0), -2);
        Due.is("seasons n lowest", x.seasons(5, Integer.MIN_VALUE, 0), -2);
        Due.is("seasons n 21", x.seasons(0, 21, 0), -2);
        Due.is("seasons what 3", x.seasons(0, 1, 3), -2);
        Due.is("seasons what -1", x.seasons(0, 1, -1), -2);
        Due.is("the last seed", x.seasons(2000000000, 1, 0), x.season(2000000000));
        Due.is("beyond the last", x.seasons(2000000000, 2, 0), -2);
        int sum = 0;
        int most = 0;
        int fewest = 9;
        for (int seed = 5; seed < 25; seed++) {
            int n = x.season(seed);
            sum += n;
            most = Math.max(most, n);
            fewest = Math.min(fewest, n);
        }
        Due.is("all", x.seasons(5, 20, 0), sum);
        Due.is("most", x.seasons(5, 20, 1), most);
        Due.is("fewest", x.seasons(5, 20, 2), fewest);
        Due.is("they differ", most > fewest ? 1 : 0, 1);
        Due.is("in thought", x.count(7), 0);
        Due.is("no inn", new KeyInn().season(0), -2);
        Due.is("no inn", new KeyInn().seasons(0, 1, 0), -2);
        Due.is("no guests", Due.inn("inn rooms 2 nights 1;").season(7), 0);
    }

    private static void draws() {
        KeyInn x = Due.inn(EITHER);
        Due.is("two ways", x.fits(0), 2);
        // 12345 / 65536 is 0, 1103527590 / 65536 is 16838, 59559187: 908, 1163074432: 17747.
        Due.is("season(0)", x.season(0), 1);
        Due.is("season(1)", x.season(1), 1);
        Due.is("season(2)", x.season(2), 1);
        Due.is("season(3)", x.season(3), 2);
        for (int seed = 1999999990; seed <= 2000000000; seed++) {
            long drawn = (1103515245L * seed + 12345) % 2147483648L / 65536 % 2;
            Due.is("season(" + seed + ")", x.season(seed), 1 + drawn);
        }
        x.book(1, 1, 0);
        Due.is("who is booked counts", x.season(0), 2);
        x.off(1);
        x.book(0, 0, 0);
        Due.is("and who does not fit does not", x.season(3), 1);
    }
}
