/** Promises 28 to 34: keys that are lost, who is bare, locks that are changed. */
public final class LostTest {
    /** Key 0 opens 0 1, key 1: 2 3, key 2: 4 5, key 3: 0 4; a door from 1 to 2. */
    private static final String TEXT = "inn rooms 6 nights 3;key 0 1;key 2 3;key 4 5;key 0 4;door 1 to 2;"
            + "guest from 0 to 1 luggage 1;guest from 0 to 2 luggage 2;guest from 1 to 2 luggage 4;";

    public static void main(String[] args) {
        losing();
        bareness();
        changing();
        fewest();
        Due.finish();
    }

    private static KeyInn booked() {
        KeyInn x = Due.inn(TEXT);
        Due.is("book 0", x.book(0, 0, 0), 0);
        Due.is("book 1", x.book(1, 2, 1), 0);
        Due.is("book 2", x.book(2, 5, 2), 0);
        return x;
    }

    private static void losing() {
        KeyInn x = booked();
        Due.is("found already", x.lose(0, false), -5);
        Due.is("lose", x.lose(0, true), 0);
        Due.is("lost already", x.lose(0, true), -5);
        Due.is("lost", x.count(8), 1);
        Due.is("it stays his", x.key(0, 10), 0);
        Due.is("he stays booked", x.count(7), 7);
        Due.is("he comes as before", x.comes(0, 0), 7);
        Due.is("found", x.lose(0, false), 0);
        Due.is("none lost", x.count(8), 0);
        Due.is("no such key", x.lose(4, true), -2);
        Due.is("no such key", x.lose(-1, false), -2);
    }

    private static void bareness() {
        KeyInn x = booked();
        Due.is("open without", x.open(), 0);
        Due.is("bare without", x.bare(0), 0);
        Due.is("harm(0, 0)", x.harm(0, 0), 2);
        Due.is("harm(0, 2)", x.harm(0, 2), 1);
        Due.is("harm(3, 1)", x.harm(3, 1), 1);
        Due.is("worst(0)", x.worst(0), 0);
        Due.is("worst(2)", x.worst(2), 0);
        x.lose(1, true);
        Due.is("open by key 1", x.open(), 14);
        Due.is("bare(0)", x.bare(0), 2);
        Due.is("harm of the lost", x.harm(1, 0), 1);
        Due.is("harm(3, 0)", x.harm(3, 0), 2);
        Due.is("harm(2, 0)", x.harm(2, 0), 1);
        Due.is("worst(0)", x.worst(0), 0);
        Due.is("worst(2) with 1 lost", x.worst(2), 2);
        x.lose(3, true);
        Due.is("open by keys 1, 3", x.open(), 31);
        Due.is("bare(1)", x.bare(1), 3);
        Due.is("bare(2)", x.bare(2), 2);
        Due.is("bare(3)", x.bare(3), -2);
        Due.is("bare(-1)", x.bare(-1), -2);
        Due.is("harm(4, 0)", x.harm(4, 0), -2);
        Due.is("harm(0, 3)", x.harm(0, 3), -2);
        Due.is("worst(3)", x.worst(3), -2);
        Due.is("no keys", Due.inn("inn rooms 2 nights 1;").worst(0), -1);
    }

    private static void changing() {
        KeyInn x = booked();
        Due.is("no lost key", x.change(0), 0);
        Due.is("opens as before", x.key(0, 0), 3);
        x.lose(0, true);
        x.lose(3, true);
        Due.is("two lost keys", x.change(0), 2);
        Due.is("once more", x.change(0), 0);
        Due.is("key 0", x.key(0, 0), 2);
        Due.is("key 3", x.key(3, 0), 16);
        Due.is("open", x.open(), 22);
        Due.is("he stays booked", x.guest(0, 0), 0);
        Due.is("he comes there no more", x.comes(0, 0), 6);
        x.lose(0, false);
        Due.is("found, it stays shut out", x.key(0, 0), 2);
        Due.is("one that is not lost", x.change(1), 0);
        Due.is("keeps on", x.key(0, 0), 2);
        Due.is("change(6)", x.change(6), -2);
        Due.is("change(-1)", x.change(-1), -2);
        Due.is("no inn", new KeyInn().change(0), -2);
        x.off(0);
        Due.is("it opens that room no more", x.book(0, 0, 0), -5);
        Due.is("but the other", x.book(0, 1, 0), 0);
    }

    private static void fewest() {
        KeyInn x = booked();
        Due.is("none", x.fewest(0, 0), 0);
        Due.is("none", x.fewest(0, 1), 0);
        x.lose(0, true);
        Due.is("two locks", x.fewest(0, 0), 2);
        Due.is("rooms 0 and 1", x.fewest(0, 1), 3);
        Due.is("one lock", x.fewest(2, 0), 1);
        Due.is("room 1", x.fewest(2, 1), 2);
        x.lose(2, true);
        Due.is("room 5, too", x.fewest(2, 1), 34);
        x.change(1);
        x.change(5);
        Due.is("none now", x.fewest(2, 0), 0);
        Due.is("nobody bare", x.bare(2), 0);
        Due.is("fewest(3, 0)", x.fewest(3, 0), -2);
        Due.is("fewest(0, 2)", x.fewest(0, 2), -2);
        Due.is("fewest(0, -1)", x.fewest(0, -1), -2);
    }
}
