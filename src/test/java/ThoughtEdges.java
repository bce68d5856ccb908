/** Edges of promises 48 to 51: rows judged as bookings, and seasons drawn. */
final class ThoughtEdges {
    private static final String FULL = KeyEdges.FULL;
    private static final String GUEST = "guest from 0 to 0 luggage 1;";

    private ThoughtEdges() {
    }

    /** Three rooms' pairs apart: keys 0 1, 2 3, 4 5, and three guests on one night of two. */
    private static KeyInn small() {
        return Due.inn("inn rooms 6 nights 2;key 0 1;key 2 3;key 4 5;" + GUEST.repeat(3) + "wants 2 4;");
    }

    private static KeyInn with(KeyInn x, int width, long... numbers) {
        x.row(0, width, numbers.length);
        for (int i = 0; i < numbers.length; i++) {
            x.write(0, i, numbers[i]);
        }
        return x;
    }

    // ---- judge: "how many ahead of the first that can't be (of one who is BOOKED, too)" ----

    static void p48NoNumbers() {
        Due.is("a row of none", with(small(), 2).judge(0), 0);
    }

    static void p48AllCanBe() {
        KeyInn x = with(small(), 2, 0, 10201, 20402);
        Due.is("three", x.judge(0), 3);
        Due.is("in thought", x.count(7), 0);
        Due.is("once more", x.judge(0), 3);
    }

    static void p48SixtyNumbers() {
        KeyInn x = small();
        x.row(3, 3, 60);
        Due.is("the second is he again", x.judge(3), 1);
    }

    static void p48TheGreatest() {
        KeyInn x = Due.inn(FULL);
        Due.is("guest 8, room 9, key 9", with(x, 2, 80909).judge(0), 1);
        Due.is("guest 8, room 2, key 11", with(x, 3, 80211).judge(0), 1);
        Due.is("guest 8, room 0, key 0", with(x, 2, 80000).judge(0), 1);
        Due.is("guest 1, and then guest 0", with(x, 2, 10000, 101).judge(0), 2);
        Due.is("no guest 9", with(x, 2, 90909).judge(0), 0);
        Due.is("no room 10", with(x, 2, 81009).judge(0), 0);
        Due.is("no key 12", with(x, 2, 80212).judge(0), 0);
        Due.is("no key 99", with(x, 2, 80299).judge(0), 0);
        Due.is("no room 99", with(x, 2, 89900).judge(0), 0);
    }

    static void p48BelowZero() {
        for (int width = 0; width < 4; width++) {
            Due.is("width " + width, with(small(), width, -1).judge(0), 0);
            Due.is("width " + width, with(small(), width, -100).judge(0), 0);
        }
        Due.is("the lowest", with(small(), 3, Long.MIN_VALUE).judge(0), 0);
        Due.is("the lowest of four bytes", with(small(), 2, Integer.MIN_VALUE).judge(0), 0);
    }

    static void p48NoWrap() {
        // Cut to four bytes each of these would be a booking that can be.
        for (long high : new long[] {1L << 32, 1L << 33, 1L << 40, 1L << 62, -1L << 32, Long.MIN_VALUE}) {
            Due.is("number " + high, with(small(), 3, high).judge(0), 0);
            Due.is("number " + (high + 10201), with(small(), 3, high + 10201).judge(0), 0);
            Due.is("cut to four bytes", with(small(), 2, high + 10201).judge(0), 1);
        }
        Due.is("a guest that wraps", with(small(), 3, 10000L * (1L << 32)).judge(0), 0);
        Due.is("the highest", with(small(), 3, Long.MAX_VALUE).judge(0), 0);
    }

    static void p48FirstThatCant() {
        KeyInn x = small();
        Due.is("the first", with(x, 2, 99, 10201).judge(0), 0);
        Due.is("the second", with(x, 2, 0, 99, 10201).judge(0), 1);
        Due.is("the third", with(x, 2, 0, 10201, 99).judge(0), 2);
    }

    static void p48OneBehindTheOther() {
        KeyInn x = small();
        Due.is("the room is taken", with(x, 2, 0, 10000).judge(0), 1);
        Due.is("the key is taken", with(x, 2, 0, 10100).judge(0), 1);
        Due.is("he is booked in thought", with(x, 2, 0, 201).judge(0), 1);
        Due.is("he wants 4 alone", with(x, 2, 20502).judge(0), 0);
    }

    static void p48OneWhoIsBooked() {
        KeyInn x = with(small(), 2, 10201, 0, 20402);
        x.book(0, 0, 0);
        Due.is("as he is", x.judge(0), 1);
        x.off(0);
        Due.is("no more", x.judge(0), 3);
        x.book(2, 4, 2);
        Due.is("another one", x.judge(0), 2);
    }

    static void p48LostKey() {
        KeyInn x = with(small(), 2, 0, 10201);
        x.lose(1, true);
        Due.is("the second", x.judge(0), 1);
    }

    static void p48SuchSlots() {
        KeyInn x = small();
        for (int s = 0; s < 4; s++) {
            x.row(s, 0, 1);
        }
        Due.bounds("judge", x::judge, 0, 3);
        KeyInn none = new KeyInn();
        none.row(0, 0, 1);
        Due.is("no inn", none.judge(0), -2);
    }

    static void p48Nothing() {
        KeyInn x = small();
        for (int s = 0; s < 4; s++) {
            Due.is("slot " + s, x.judge(s), -6);
        }
        Due.is("no inn ahead of it", new KeyInn().judge(0), -2);
    }

    /** All that can be asked of an inn as numbers, one behind the other. */
    private static int[] stateOf(KeyInn x) {
        int[] state = new int[400];
        int n = 0;
        for (int what = 0; what <= 10; what++) {
            state[n++] = x.count(what);
        }
        for (int g = 0; g < x.count(4); g++) {
            for (int what = 0; what <= 5; what++) {
                state[n++] = x.guest(g, what);
            }
        }
        for (int k = 0; k < x.count(2); k++) {
            for (int what : new int[] {0, 1, 10, 29}) {
                state[n++] = x.key(k, what);
            }
            state[n++] = x.reach(1 << k);
        }
        for (int i = 0; i < x.count(9); i++) {
            state[n++] = x.could(i);
        }
        for (int night = 0; night < 20; night++) {
            state[n++] = x.unsafe(night, 1);
            state[n++] = x.bare(night);
        }
        state[n++] = x.judge(0);
        state[n++] = x.fault(0);
        return state;
    }

    private static void askAll(KeyInn x, int night) {
        for (int g = 0; g < 9; g++) {
            x.fits(g);
            x.first(g);
            x.give(g);
            x.still(g);
            x.lay(night, g);
            x.next(night, g);
            x.swap(g, 8 - g, night);
        }
        for (int what = 0; what <= 1; what++) {
            x.rings(night, what);
            x.fewest(night, what);
            x.gang(what);
            x.round(what);
            x.rounds(511, what);
            x.leave(night, what);
            x.shut(night, what);
            x.seasons(3, 5, what);
        }
        x.most(night);
        x.ways(night);
        x.spare(night);
        x.full(night);
        x.worst(night);
        x.harm(3, night);
        x.risk(night);
        x.loops();
        x.all();
        x.calm();
        x.open();
        x.season(9);
        x.judge(0);
        x.then(0, night);
    }

    /** What is asked or done in thought alone leaves the inn as it was. */
    static void p48QuestionsChangeNothing() {
        KeyInn x = Due.inn(FULL.replace("from 0 to 19", "from 0 to 9") + "trust 0 1 2 3;trust 1 0;wants 5 5 6;");
        x.book(0, 0, 0);
        x.book(1, 4, 4);
        x.book(2, 9, 9);
        x.lose(4, true);
        x.lose(11, true);
        x.change(4);
        x.theft(1, 1);
        x.theft(2, 9);
        x.away(1, 1);
        with(x, 2, 30303, 50505, 99);
        int[] before = stateOf(x);
        askAll(x, 0);
        askAll(x, 9);
        askAll(x, 15);
        askAll(x, 20);
        int[] after = stateOf(x);
        for (int i = 0; i < before.length; i++) {
            Due.is("state " + i, after[i], before[i]);
        }
    }

    // ---- then: "-2 likewise, no such NIGHT; -6 likewise" ----

    static void p49NoneAndAll() {
        KeyInn x = Due.inn(FULL);
        Due.is("a row of none", with(x, 2).then(0, 0), 0);
        long[] all = new long[9];
        for (int g = 0; g < 9; g++) {
            all[g] = 10000L * g + 100L * g + g;
        }
        Due.is("all nine", with(x, 2, all).judge(0), 9);
        Due.is("pairs", x.then(0, 19), 72);
        Due.is("in thought", x.unsafe(19, 1), 0);
    }

    static void p49AheadOfTheFirstThatCant() {
        KeyInn x = Due.inn("inn rooms 2 nights 2;key 0 1;key 0 1;" + GUEST.repeat(2));
        Due.is("both", with(x, 2, 0, 10101).then(0, 0), 2);
        Due.is("the night that is nobody's", x.then(0, 1), 0);
        Due.is("none behind 99", with(x, 2, 0, 99, 10101).then(0, 0), 0);
        x.book(0, 0, 0);
        Due.is("and who is booked", with(x, 2, 10101).then(0, 0), 2);
        Due.is("whose number ends it", with(x, 2, 0, 10101).then(0, 0), 0);
    }

    static void p49SuchSlotsNights() {
        KeyInn x = small();
        for (int s = 0; s < 4; s++) {
            x.row(s, 0, 1);
        }
        Due.bounds("a slot", s -> x.then(s, 0), 0, 3);
        Due.bounds("a night", n -> x.then(0, n), 0, 1);
        KeyInn y = Due.inn(FULL);
        y.row(0, 0, 1);
        Due.bounds("a night of twenty", n -> y.then(0, n), 0, 19);
    }

    static void p49Nothing() {
        KeyInn x = small();
        Due.is("nothing", x.then(0, 0), -6);
        Due.is("no such night ahead of it", x.then(0, 2), -2);
        Due.is("no such slot", x.then(4, 0), -2);
    }

    // ---- season: "a seed (0 .. 2,000,000,000) .. -2: there is none such, no INN" ----

    /** Guest 0 in room 0 by key 0 (the first of his two ways) leaves nothing to guest 1, by key 1 he does. */
    private static KeyInn either() {
        return Due.inn("inn rooms 4 nights 1;key 0 1;key 0 2;" + GUEST.repeat(2) + "wants 0 0;wants 1 1;trust 0 1;");
    }

    private static long drawn(long x, int n) {
        return x / 65536 % n;
    }

    private static long step(long x) {
        return (1103515245L * x + 12345) % 2147483648L;
    }

    static void p50SuchSeeds() {
        KeyInn x = either();
        Due.taken("season", x::season, 0);
        Due.taken("season", x::season, 2000000000);
        Due.absent("season", x::season, -1, 2000000001, -2000000000, Integer.MIN_VALUE, Integer.MAX_VALUE);
        Due.is("no inn", new KeyInn().season(0), -2);
    }

    static void p50LeastAndGreatestSeed() {
        KeyInn x = either();
        Due.is("seed 0", x.season(0), 1 + drawn(step(0), 2));
        Due.is("seed 1", x.season(1), 1 + drawn(step(1), 2));
        // The product is above 2 to the 60th, and modulo 2 to the 31st.
        Due.is("the last", x.season(2000000000), 1 + drawn(step(2000000000L), 2));
        Due.is("the last but one", x.season(1999999999), 1 + drawn(step(1999999999L), 2));
    }

    /** Drawn by 36: all ways of the first guest; which one it was shows by who fits then. */
    static void p50DrawnByAllWays() {
        KeyInn x = Due.inn("inn rooms 3 nights 1;" + "key 0 1 2;".repeat(12) + GUEST.repeat(2) + "wants 1 1;trust 0 1;trust 1 0;");
        Due.is("ways", x.fits(0), 36);
        for (int seed = 0; seed < 40; seed++) {
            // In room 1 (ways 12 .. 23) he bars the other one.
            long way = drawn(step(seed), 36);
            Due.is("seed " + seed, x.season(seed), way >= 12 && way < 24 ? 1 : 2);
        }
    }

    /** A guest who does not fit draws nothing, so the third one's draw is the second. */
    static void p50OnlyWhoFitsDraws() {
        String text = "inn rooms 9 nights 1;key 0 1;key 2 3;key 4 5;key 4 6;" + GUEST.repeat(4) + "wants 0 0 1;wants 1 8;wants 2 4;wants 3 6;trust 3 2;";
        KeyInn x = Due.inn(text);
        Due.is("two ways", x.fits(0), 2);
        Due.is("none", x.fits(1), 0);
        Due.is("two ways", x.fits(2), 2);
        for (int seed = 0; seed < 40; seed++) {
            // By key 3 (the second way) guest 2 has the only key that opens room 6; by key 2 guest 3 would come to room 4.
            Due.is("seed " + seed, x.season(seed), 2);
        }
        KeyInn y = Due.inn(text + "trust 2 3;");
        for (int seed = 0; seed < 40; seed++) {
            Due.is("friends, seed " + seed, y.season(seed), drawn(step(step(seed)), 2) == 0 ? 3 : 2);
        }
    }

    static void p50NoGuestsNoKeys() {
        Due.is("no guests", Due.inn(TextEdges.HEAD).season(5), 0);
        Due.is("no keys", Due.inn("inn rooms 2 nights 1;" + GUEST).season(5), 0);
    }

    static void p50WhoIsBooked() {
        KeyInn x = Due.inn("inn rooms 6 nights 1;key 0 1;key 2 3;key 4 5;" + GUEST.repeat(3) + "wants 0 0 1;wants 1 2 3;wants 2 4 5;");
        Due.is("all", x.season(7), 3);
        x.book(0, 0, 0);
        Due.is("and he", x.season(7), 3);
        x.book(1, 2, 1);
        x.book(2, 4, 2);
        Due.is("all were", x.season(7), 3);
        x.off(0);
        x.season(7);
        Due.is("he is not booked by it", x.count(7), 6);
    }

    /** Guest 0, who is booked, draws nothing and stays where he is; so guest 1's draw is the first. */
    static void p50WhoIsBookedStays() {
        KeyInn x = Due.inn("inn rooms 10 nights 1;key 8 9;key 0 1;key 0 2;key 1 5;" + GUEST.repeat(3) + "wants 1 0;wants 2 1;trust 1 2;");
        x.book(0, 9, 0);
        Due.is("ways", x.fits(1), 2);
        for (int seed = 0; seed < 40; seed++) {
            // By key 1 (0 1) guest 1 comes to room 1, so 2 is not housed there; by key 2 (0 2) he is.
            Due.is("seed " + seed, x.season(seed), 2 + drawn(step(seed), 2));
        }
        Due.is("where he was", x.guest(0, 0), 9);
    }

    /** The way drawn tells a room as it is: in room 8 he bars the second guest, in room 9 he does not. */
    static void p50GreatRooms() {
        KeyInn x = Due.inn("inn rooms 10 nights 1;key 8 9;key 9 8 7;" + GUEST.repeat(2) + "wants 0 8 9;wants 1 8;trust 0 1;trust 1 0;");
        Due.is("ways", x.fits(0), 4);
        for (int seed = 0; seed < 40; seed++) {
            Due.is("seed " + seed, x.season(seed), drawn(step(seed), 4) < 2 ? 1 : 2);
        }
    }

    // ---- seasons: "Of n (1 .. 20) from seeds, the seed and 1, .., what 0: .., 1: the most, 2: the fewest" ----

    static void p51HowMany() {
        KeyInn x = either();
        for (int what = 0; what <= 2; what++) {
            int asked = what;
            Due.bounds("n, what " + what, n -> x.seasons(3, n, asked), 1, 20);
        }
        Due.is("n 0, seed 0", x.seasons(0, 0, 0), -2);
    }

    static void p51OneSeason() {
        KeyInn x = either();
        for (int what = 0; what <= 2; what++) {
            Due.is("what " + what, x.seasons(3, 1, what), x.season(3));
        }
    }

    static void p51Twenty() {
        KeyInn x = either();
        int sum = 0;
        int most = 0;
        int fewest = 9;
        for (int seed = 100; seed < 120; seed++) {
            int booked = (int) (1 + drawn(step(seed), 2));
            sum += booked;
            most = Math.max(most, booked);
            fewest = Math.min(fewest, booked);
        }
        Due.is("together", x.seasons(100, 20, 0), sum);
        Due.is("the most", x.seasons(100, 20, 1), most);
        Due.is("the fewest", x.seasons(100, 20, 2), fewest);
    }

    static void p51LastSeasonCounts() {
        KeyInn x = either();
        for (int seed = 0; seed < 30; seed++) {
            int sum = 0;
            for (int n = 1; n <= 4; n++) {
                sum += (int) (1 + drawn(step(seed + n - 1), 2));
                Due.is("seasons(" + seed + ", " + n + ", 0)", x.seasons(seed, n, 0), sum);
            }
        }
    }

    static void p51SuchSeeds() {
        KeyInn x = either();
        Due.taken("seed", s -> x.seasons(s, 1, 0), 0);
        Due.taken("seed", s -> x.seasons(s, 1, 0), 2000000000);
        Due.taken("seed", s -> x.seasons(s, 20, 0), 1999999981);
        Due.absent("seed", s -> x.seasons(s, 1, 0), -1, 2000000001, Integer.MIN_VALUE, Integer.MAX_VALUE);
        Due.is("from below 0 to 0", x.seasons(-1, 2, 0), -2);
    }

    /** The last of the seeds is none such then. */
    static void p51SeedsBeyondTheLast() {
        KeyInn x = either();
        Due.is("two from the last", x.seasons(2000000000, 2, 0), -2);
        Due.is("twenty", x.seasons(1999999982, 20, 0), -2);
    }

    static void p51SuchWhats() {
        KeyInn x = either();
        Due.bounds("what", what -> x.seasons(3, 20, what), 0, 2);
        Due.is("no inn", new KeyInn().seasons(0, 1, 0), -2);
    }

    static void p51NoGuests() {
        KeyInn x = Due.inn(TextEdges.HEAD);
        for (int what = 0; what <= 2; what++) {
            Due.is("what " + what, x.seasons(3, 20, what), 0);
        }
    }

    static void p51AllNine() {
        // Nine guests on nights of their own, all of whom fit whatever is drawn.
        StringBuilder text = new StringBuilder("inn rooms 2 nights 9;key 0 1;");
        for (int g = 0; g < 9; g++) {
            text.append("guest from ").append(g).append(" to ").append(g).append(" luggage 1;");
        }
        KeyInn x = Due.inn(text.toString());
        Due.is("together", x.seasons(0, 20, 0), 180);
        Due.is("the most", x.seasons(0, 20, 1), 9);
        Due.is("the fewest", x.seasons(0, 20, 2), 9);
    }
}
