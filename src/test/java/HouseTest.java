/** Promises 21 to 27: who can be housed, and rings made anew. */
public final class HouseTest {
    private static final String GUEST = "guest from 0 to 0 luggage 1;";

    public static void main(String[] args) {
        housed();
        partly();
        spare();
        wrong();
        rings();
        ringEdges();
        Due.finish();
    }

    private static void housed() {
        // Two rooms that both keys open: each comes to the other.
        String two = "inn rooms 2 nights 2;key 0 1;key 1 0;" + GUEST + GUEST;
        KeyInn x = Due.inn(two);
        Due.is("strangers: most", x.most(0), 1);
        Due.is("strangers: ways", x.ways(0), 0);
        Due.is("strangers: lay 0", x.lay(0, 0), 0);
        Due.is("strangers: lay 1", x.lay(0, 1), -1);
        Due.is("nobody: most", x.most(1), 0);
        Due.is("nobody: ways", x.ways(1), 1);
        x = Due.inn(two + "trust 0 1;");
        Due.is("one trusts: most", x.most(0), 1);
        x = Due.inn(two + "trust 0 1;trust 1 0;");
        Due.is("friends: most", x.most(0), 2);
        Due.is("friends: ways", x.ways(0), 4);
        Due.is("friends: lay 0", x.lay(0, 0), 0);
        Due.is("friends: lay 1", x.lay(0, 1), 101);
        x.book(1, 0, 0);
        Due.is("bookings aside", x.ways(0), 4);
        x.lose(0, true);
        Due.is("a lost key: most", x.most(0), 1);
        Due.is("a lost key: lay", x.lay(0, 0), 1);
        Due.is("a lost key: ways", x.ways(0), 0);
        x.lose(0, false);
        x.lose(1, true);
        x.change(1);
        x.lose(1, false);
        Due.is("a changed lock: ways", x.ways(0), 2);
        Due.is("a changed lock: lay 0", x.lay(0, 0), 1);
        Due.is("a changed lock: lay 1", x.lay(0, 1), 100);
    }

    private static void partly() {
        // All four want room 0 or 1; key 2 opens neither, doors join 0 to 2.
        KeyInn x = Due.inn("inn rooms 6 nights 1;key 0 3;key 1 4;key 2 5;door 0 to 2;" + GUEST.repeat(4)
                + "wants 0 2;wants 1 0;wants 2 0 1;wants 3 1;");
        // Guest 0 in 2 by key 2 comes to 0, so 1 is not housed beside him; 2 or 3 has room 1.
        Due.is("most", x.most(0), 2);
        Due.is("ways", x.ways(0), 0);
        Due.is("lay 0", x.lay(0, 0), 202);
        Due.is("lay 1", x.lay(0, 1), -1);
        Due.is("lay 2", x.lay(0, 2), 101);
        Due.is("lay 3", x.lay(0, 3), -1);
        // Most ahead of the first: guest 0 would be alone, for both keys open room 0.
        x = Due.inn("inn rooms 3 nights 1;key 0 1;key 0 2;" + GUEST.repeat(3) + "wants 0 0;wants 1 1;wants 2 2;");
        Due.is("most without him", x.most(0), 2);
        Due.is("he is not housed", x.lay(0, 0), -1);
        Due.is("lay 1", x.lay(0, 1), 100);
        Due.is("lay 2", x.lay(0, 2), 201);
        KeyInn y = Due.inn("inn rooms 10 nights 1;" + "key 0 1 2;key 3 4 5;key 6 7 8;".repeat(4) + GUEST.repeat(4)
                + "trust 0 1 2 3;trust 1 0 2 3;trust 2 0 1 3;trust 3 0 1 2;");
        // Rooms 9 * 8 * 7 * 6, keys: four for each three rooms, less those taken.
        Due.is("friends in nine rooms", y.ways(0), friendsWays());
        Due.is("all of them", y.most(0), 4);
        Due.is("the last", y.lay(0, 3), 301);
    }

    private static int friendsWays() {
        int ways = 0;
        for (int a = 0; a < 9; a++) {
            for (int b = 0; b < 9; b++) {
                for (int c = 0; c < 9; c++) {
                    for (int d = 0; d < 9; d++) {
                        if (a != b && a != c && a != d && b != c && b != d && c != d) {
                            int[] keys = {4, 4, 4};
                            int product = keys[a / 3]--;
                            product *= keys[b / 3]--;
                            product *= keys[c / 3]--;
                            ways += product * keys[d / 3];
                        }
                    }
                }
            }
        }
        return ways;
    }

    private static void spare() {
        KeyInn x = Due.inn("inn rooms 4 nights 2;key 0 1;key 2 3;key 0 1;" + GUEST + GUEST);
        Due.is("spare", x.spare(0), 0);
        Due.is("spare of nobody", x.spare(1), 0);
        x.lose(2, true);
        // Now key 0 or 1 leaves one alone, the lost one both.
        Due.is("spare with one lost", x.spare(0), 2);
        x = Due.inn("inn rooms 4 nights 1;key 0 1;key 0 1;key 2 3;" + GUEST + GUEST + "wants 0 2;");
        Due.is("spare: not key 2", x.spare(0), 0);
        x = Due.inn("inn rooms 4 nights 1;key 2 3;key 0 1;key 0 1;" + GUEST + GUEST + "wants 0 2;");
        Due.is("spare: not key 0", x.spare(0), 1);
        Due.is("no keys", Due.inn("inn rooms 2 nights 1;" + GUEST).spare(0), -1);
    }

    private static void wrong() {
        KeyInn x = Due.inn("inn rooms 2 nights 2;key 0 1;" + GUEST.repeat(5) + "guest from 1 to 1 luggage 0;");
        Due.is("most(0)", x.most(0), -3);
        Due.is("ways(0)", x.ways(0), -3);
        Due.is("lay(0, 0)", x.lay(0, 0), -3);
        Due.is("lay(0, 5)", x.lay(0, 5), -2);
        Due.is("spare(0)", x.spare(0), -3);
        Due.is("lay(1, 0)", x.lay(1, 0), -2);
        Due.is("lay(1, 5)", x.lay(1, 5), 0);
        Due.is("lay(1, 6)", x.lay(1, 6), -2);
        Due.is("lay(1, -1)", x.lay(1, -1), -2);
        Due.is("most(2)", x.most(2), -2);
        Due.is("ways(-1)", x.ways(-1), -2);
        Due.is("lay(2, 5)", x.lay(2, 5), -2);
        Due.is("spare(2)", x.spare(2), -2);
    }

    private static void rings() {
        // 0 trusts 1, 1 trusts 2, 2 trusts 0: each one's next is who trusts him.
        String three = "inn rooms 2 nights 2;" + GUEST.repeat(3) + "trust 0 1;trust 1 2;trust 2 0;";
        KeyInn x = Due.inn(three);
        Due.is("full", x.full(0), 1);
        Due.is("fewest", x.rings(0, 0), 1);
        Due.is("most", x.rings(0, 1), 1);
        Due.is("next(0, 0)", x.next(0, 0), 2);
        Due.is("next(0, 1)", x.next(0, 1), 0);
        Due.is("next(0, 2)", x.next(0, 2), 1);
        x = Due.inn("inn rooms 2 nights 1;" + GUEST.repeat(4) + "trust 0 1 2 3;trust 1 0 2 3;trust 2 0 1 3;trust 3 0 1 2;");
        Due.is("four friends", x.full(0), 9);
        Due.is("fewest of four", x.rings(0, 0), 1);
        Due.is("most of four", x.rings(0, 1), 2);
        Due.is("next of four", x.next(0, 0), 1);
        Due.is("next of four", x.next(0, 1), 0);
        Due.is("next of four", x.next(0, 2), 3);
        // Two ways alone: 1 0 3 2, and then 2 3 1 0 in one ring.
        x = Due.inn("inn rooms 2 nights 1;" + GUEST.repeat(4) + "trust 0 1 3;trust 1 0 2;trust 2 0 3;trust 3 1 2;");
        Due.is("two ways", x.full(0), 2);
        Due.is("fewest is the last", x.rings(0, 0), 1);
        Due.is("most is the first", x.rings(0, 1), 2);
        // And turned round: 1 2 3 0, and then 3 2 1 0.
        x = Due.inn("inn rooms 2 nights 1;" + GUEST.repeat(4) + "trust 1 0 2;trust 2 1;trust 3 2 0;trust 0 3;");
        Due.is("two ways", x.full(0), 2);
        Due.is("fewest is the first", x.rings(0, 0), 1);
        Due.is("most is the last", x.rings(0, 1), 2);
        StringBuilder seven = new StringBuilder("inn rooms 2 nights 1;" + GUEST.repeat(7));
        for (int g = 0; g < 7; g++) {
            seven.append("trust ").append(g);
            for (int h = 0; h < 7; h++) {
                seven.append(h == g ? "" : " " + h);
            }
            seven.append(';');
        }
        x = Due.inn(seven.toString());
        Due.is("seven friends", x.full(0), 1854);
        Due.is("fewest of seven", x.rings(0, 0), 1);
        Due.is("most of seven", x.rings(0, 1), 3);
        Due.is("next of seven", x.next(0, 6), 4);
    }

    private static void ringEdges() {
        KeyInn x = Due.inn("inn rooms 2 nights 3;" + GUEST + GUEST + "guest from 0 to 1 luggage 1;trust 0 1;");
        Due.is("no way", x.full(0), 0);
        Due.is("no fewest", x.rings(0, 0), -1);
        Due.is("no most", x.rings(0, 1), -1);
        Due.is("no next", x.next(0, 1), -1);
        Due.is("one guest", x.full(1), -3);
        Due.is("one guest", x.rings(1, 0), -3);
        Due.is("one guest", x.next(1, 2), -3);
        Due.is("not of that night", x.next(1, 0), -2);
        Due.is("nobody", x.full(2), -3);
        Due.is("full(3)", x.full(3), -2);
        Due.is("rings(3, 0)", x.rings(3, 0), -2);
        Due.is("rings(0, 2)", x.rings(0, 2), -2);
        Due.is("rings(1, -1)", x.rings(1, -1), -2);
        Due.is("next(3, 0)", x.next(3, 0), -2);
        Due.is("next(0, 3)", x.next(0, 3), -2);
        x = Due.inn("inn rooms 2 nights 1;" + GUEST.repeat(8));
        Due.is("eight", x.full(0), -3);
        Due.is("eight", x.rings(0, 0), -3);
        Due.is("eight", x.next(0, 0), -3);
    }
}
