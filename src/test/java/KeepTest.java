/** Promises 52 to 57: counts, images and rows. */
public final class KeepTest {
    private static final String TEXT = "inn rooms 4 nights 3;key 0 1;key 2 3;door 0 to 2;guest from 0 to 1 luggage 1;"
            + "guest from 0 to 2 luggage 2;wants 1 2;";

    public static void main(String[] args) {
        counts();
        images();
        rows();
        pastes();
        Due.finish();
    }

    private static void counts() {
        KeyInn x = Due.inn(TEXT);
        x.book(1, 2, 1);
        x.lose(0, true);
        x.theft(0, 0);
        x.theft(0, 1);
        x.row(3, 1, 4);
        x.feed(1, 2, 3, 4, 5);
        int[] due = {4, 3, 2, 1, 2, 7, 20, 2, 1, 2, 1};
        for (int what = 0; what < due.length; what++) {
            Due.is("count(" + what + ")", x.count(what), due[what]);
        }
        Due.is("count(11)", x.count(11), -1);
        Due.is("count(-1)", x.count(-1), -1);
    }

    private static void images() {
        KeyInn x = new KeyInn();
        Due.is("keep(-1)", x.keep(-1), -2);
        Due.is("keep(3)", x.keep(3), -2);
        Due.is("back(-1)", x.back(-1), -2);
        Due.is("back(3)", x.back(3), -2);
        Due.is("back(2)", x.back(2), -6);
        Due.is("keep without an inn", x.keep(0), 0);
        Due.tell(x, TEXT);
        x.book(0, 0, 0);
        x.lose(1, true);
        x.change(3);
        x.theft(2, 2);
        x.away(1, 0);
        Due.is("keep(1)", x.keep(1), 0);
        x.row(0, 0, 1);
        x.off(0);
        x.lose(1, false);
        x.book(1, 2, 1);
        x.theft(1, 1);
        x.away(0, 0);
        x.feed(0, 0, 0, 0, 0);
        Due.is("keep(2)", x.keep(2), 0);
        Due.is("back(1)", x.back(1), 0);
        for (int turn = 0; turn < 2; turn++) {
            Due.is("booked", x.count(7), 1);
            Due.is("room", x.guest(0, 0), 0);
            Due.is("lost", x.count(8), 2);
            Due.is("changed", x.key(1, 0), 4);
            Due.is("reach", x.reach(2), 5);
            Due.is("thefts", x.count(9), 1);
            Due.is("away then", x.away(1, 0), -5);
            Due.is("not away then", x.away(0, 0), 0);
            Due.is("rows stay", x.count(10), 1);
            Due.is("the tape stays", x.count(6), turn == 0 ? 20 : 0);
            x.end(0);
            Due.tell(x, "inn rooms 2 nights 1;");
            Due.is("another inn", x.count(0), 2);
            Due.is("back(1) again", x.back(1), 0);
        }
        Due.is("back(2)", x.back(2), 0);
        Due.is("booked", x.count(7), 2);
        Due.is("changed", x.key(1, 0), 4);
        Due.is("thefts", x.count(9), 2);
        Due.is("could", x.could(0), 0);
        Due.is("back(0)", x.back(0), 0);
        Due.is("no inn", x.reach(0), -2);
        Due.is("no thefts", x.count(9), 0);
        Due.is("an image again", x.keep(1), 0);
        Due.is("in place of the other", x.back(1), 0);
        Due.is("no inn", x.count(5), 0);
    }

    private static void rows() {
        KeyInn x = Due.inn("inn rooms 2 nights 1;key 0 1;guest from 0 to 0 luggage 1;");
        Due.is("row: slot -1", x.row(-1, 0, 1), -2);
        Due.is("row: slot 4", x.row(4, 0, 1), -2);
        Due.is("row: width -1", x.row(0, -1, 1), -2);
        Due.is("row: width 4", x.row(0, 4, 1), -2);
        Due.is("row: 61", x.row(0, 0, 61), -2);
        Due.is("row: wrong slot, below 0", x.row(4, 0, -1), -2);
        Due.is("row: below 0", x.row(0, 0, -1), -3);
        Due.is("row: lowest", x.row(0, 0, Integer.MIN_VALUE), -3);
        Due.is("no rows", x.count(10), 0);
        Due.is("row: 60", x.row(0, 3, 60), 0);
        Due.is("write the last", x.write(0, 59, 1), 0);
        Due.is("write beyond", x.write(0, 60, 1), -7);
        Due.is("write below", x.write(0, -1, 1), -7);
        Due.is("write: slot -1", x.write(-1, 0, 1), -2);
        Due.is("write: slot 4", x.write(4, 99, 1), -2);
        Due.is("write: nothing", x.write(1, 99, 1), -6);
        x.write(0, 0, 5);
        Due.is("a number that can't be", x.judge(0), 0);
        Due.is("refused: it stays", x.row(0, 3, -1), -3);
        Due.is("refused: it stays", x.judge(0), 0);
        Due.is("anew", x.row(0, 3, 2), 0);
        Due.is("all 0", x.judge(0), 1);
        Due.is("shorter", x.write(0, 2, 1), -7);
        Due.is("row: 0", x.row(2, 1, 0), 0);
        Due.is("rows", x.count(10), 2);
        Due.is("write to none", x.write(2, 0, 1), -7);
    }

    private static void pastes() {
        KeyInn x = Due.inn("inn rooms 10 nights 1;key 0 1;key 2 3;key 4 5;key 6 7;"
                + "guest from 0 to 0 luggage 1;".repeat(4));
        x.row(0, 2, 4);
        x.row(1, 2, 5);
        x.row(2, 3, 4);
        int[] ways = {0, 10201, 20402, 30603};
        for (int i = 0; i < 4; i++) {
            x.write(0, i, ways[i]);
            x.write(1, i + 1, 99);
        }
        Due.is("judge(0)", x.judge(0), 4);
        Due.is("judge(1)", x.judge(1), 1);
        Due.is("paste", x.paste(0, 1, 1, 1, 3), 0);
        Due.is("judge(1) then", x.judge(1), 4);
        Due.is("slot", x.paste(-1, 0, 0, 0, 1), -2);
        Due.is("slot", x.paste(0, 0, 4, 0, 1), -2);
        Due.is("nothing", x.paste(3, 0, 0, 0, 1), -6);
        Due.is("nothing", x.paste(0, 0, 3, 0, -1), -6);
        Due.is("widths", x.paste(0, 0, 2, 0, -1), -8);
        Due.is("n below 0", x.paste(0, 0, 1, 0, -1), -7);
        Due.is("i below 0", x.paste(0, -1, 1, 0, 1), -7);
        Due.is("k below 0", x.paste(0, 0, 1, -1, 1), -7);
        Due.is("beyond", x.paste(0, 2, 1, 0, 3), -7);
        Due.is("beyond there", x.paste(0, 0, 1, 2, 4), -7);
        Due.is("far beyond", x.paste(0, 1, 1, 1, Integer.MAX_VALUE), -7);
        Due.is("far beyond", x.paste(0, Integer.MAX_VALUE, 1, 0, Integer.MAX_VALUE), -7);
        Due.is("nothing happened", x.judge(1), 4);
        Due.is("none", x.paste(0, 4, 1, 5, 0), 0);
        // Its own, forward and back, as they were.
        Due.is("forward", x.paste(1, 0, 1, 1, 3), 0);
        Due.is("0, 0, 10201, ..", x.judge(1), 1);
        Due.is("back", x.paste(1, 1, 1, 0, 4), 0);
        Due.is("0, 10201, 20402, 99", x.judge(1), 3);
    }
}
