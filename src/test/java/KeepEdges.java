/** Edges of promises 52 to 57: counts, images and rows. */
final class KeepEdges {
    private static final String FULL = KeyEdges.FULL;
    private static final int[] WIDTH_BITS = {8, 16, 32, 64};

    private KeepEdges() {
    }

    // ---- count: "NONE for others" ----

    static void p52Others() {
        for (KeyInn x : new KeyInn[] {new KeyInn(), Due.inn(FULL)}) {
            for (int what : new int[] {-1, 11, 12, 32, 42, -32, Integer.MIN_VALUE, Integer.MAX_VALUE}) {
                Due.is("count(" + what + ")", x.count(what), -1);
            }
        }
    }

    static void p52Nothing() {
        KeyInn x = new KeyInn();
        for (int what = 0; what <= 10; what++) {
            Due.is("count(" + what + ")", x.count(what), 0);
        }
    }

    static void p52TheGreatest() {
        KeyInn x = BookEdges.allTogether("");
        for (int k = 0; k < 12; k++) {
            x.lose(k, true);
        }
        for (int i = 0; i < 20; i++) {
            x.theft(0, 0);
        }
        for (int s = 0; s < 4; s++) {
            x.row(s, s, 60);
        }
        for (int i = 0; i < 80; i++) {
            x.feed(0, 0, 0, 0, 0);
        }
        int[] due = {10, 20, 12, 8, 9, 30, 1600, 511, 4095, 20, 4};
        for (int what = 0; what <= 10; what++) {
            Due.is("count(" + what + ")", x.count(what), due[what]);
        }
    }

    static void p52RowsOfNone() {
        KeyInn x = new KeyInn();
        x.row(3, 0, 0);
        Due.is("a row of no numbers is one", x.count(10), 1);
        x.row(3, 1, 60);
        Due.is("in place of it", x.count(10), 1);
    }

    // ---- keep: "IMAGE k (0 .. 2) keeps ..: 0. -2: no such k" ----

    static void p53SuchImages() {
        KeyInn x = new KeyInn();
        Due.bounds("keep", x::keep, 0, 2);
        Due.is("image 1 has nothing", x.back(1), -6);
    }

    static void p53NothingIsChanged() {
        KeyInn x = Due.inn(FULL);
        x.book(0, 0, 0);
        x.keep(0);
        x.keep(3);
        Due.is("booked", x.count(7), 1);
        Due.is("keys", x.count(2), 12);
    }

    static void p53NoInn() {
        KeyInn x = new KeyInn();
        Due.is("keep", x.keep(0), 0);
        Due.tell(x, FULL);
        Due.is("back", x.back(0), 0);
        TextEdges.asNoInn(x);
    }

    static void p53InPlaceOfAnother() {
        KeyInn x = Due.inn(FULL);
        x.keep(2);
        x.book(0, 0, 0);
        x.keep(2);
        x.off(0);
        x.back(2);
        Due.is("booked", x.count(7), 1);
    }

    static void p53ThreeApart() {
        KeyInn x = Due.inn(FULL);
        for (int k = 0; k < 3; k++) {
            x.book(k, k, k);
            Due.is("keep " + k, x.keep(k), 0);
        }
        int[] due = {1, 3, 7};
        for (int k : new int[] {0, 2, 1, 0}) {
            Due.is("back " + k, x.back(k), 0);
            Due.is("booked", x.count(7), due[k]);
        }
    }

    // ---- back: "-2: no such k; -6: it has nothing" ----

    static void p54SuchImages() {
        KeyInn x = Due.inn(FULL);
        Due.bounds("back", x::back, 0, 2);
    }

    static void p54Nothing() {
        KeyInn x = Due.inn(FULL);
        x.book(0, 0, 0);
        x.keep(1);
        x.book(1, 1, 1);
        Due.is("image 0", x.back(0), -6);
        Due.is("image 2", x.back(2), -6);
        Due.is("image 3", x.back(3), -2);
        Due.is("all stays", x.count(7), 3);
        Due.is("image 1", x.back(1), 0);
        Due.is("booked", x.count(7), 1);
    }

    /** Each of what an image keeps is changed behind it, and is as it was behind back(). */
    static void p54EachAsItWas() {
        KeyInn x = Due.inn(FULL + "trust 0 1;wants 2 3;");
        x.book(0, 0, 0);
        x.lose(1, true);
        x.change(1);
        x.theft(4, 5);
        x.away(3, 6);
        x.keep(0);
        x.off(0);
        x.book(1, 5, 5);
        x.lose(1, false);
        x.lose(2, true);
        x.change(2);
        x.theft(0, 0);
        x.away(3, 7);
        Due.tell(x, "inn rooms 2 nights 1;key 0 1;guest from 0 to 0 luggage 0;");
        x.book(0, 1, 0);
        x.theft(1, 0);
        Due.is("back", x.back(0), 0);
        int[] due = {10, 20, 12, 8, 9, 32, 0, 1, 2, 1, 0};
        for (int what = 0; what <= 10; what++) {
            Due.is("count(" + what + ")", x.count(what), due[what]);
        }
        Due.is("room", x.guest(0, 0), 0);
        Due.is("changed", x.key(1, 0), 4);
        Due.is("not changed", x.key(2, 0), 12);
        Due.is("reach", x.reach(4), 511);
        Due.is("trust", x.trusts(0, 1), 1);
        Due.is("wants", x.guest(2, 5), 8);
        Due.is("luggage", x.guest(0, 4), 99);
        Due.is("away then", x.away(3, 6), -5);
        Due.is("not away then", x.away(3, 7), 0);
        Due.is("the theft from room 4, by the doors", x.could(0), 1);
        x.off(0);
        x.book(5, 4, 4);
        Due.is("who sleeps in room 4", x.could(0), 0);
        x.away(0, 5);
        x.book(0, 0, 0);
        Due.is("who was away on night 5", x.could(0), 0);
    }

    static void p54OftenAsOneLikes() {
        KeyInn x = Due.inn(FULL);
        x.keep(0);
        for (int turn = 0; turn < 3; turn++) {
            Due.is("book", x.book(0, 0, 0), 0);
            Due.is("away", x.away(0, 0), 0);
            Due.is("theft", x.theft(0, 0), 1);
            Due.is("back", x.back(0), 0);
        }
    }

    static void p54TapeSlotsFaultStay() {
        KeyInn x = Due.inn(FULL);
        x.keep(0);
        Due.tell(x, "?");
        x.feed(0, 0, 0, 0, 0);
        x.row(1, 2, 5);
        Due.is("back", x.back(0), 0);
        Due.is("bytes", x.count(6), 20);
        Due.is("rows", x.count(10), 1);
        Due.is("fault", x.fault(0), 1);
        Due.is("place", x.fault(1), 0);
    }

    // ---- row: "-2: there is no such SLOT or WIDTH (0 .. 3), or n is above 60; -3, and the SLOT stays: n is below 0" ----

    static void p55SuchSlotsWidths() {
        KeyInn x = new KeyInn();
        Due.bounds("a slot", s -> x.row(s, 0, 1), 0, 3);
        Due.bounds("a width", w -> x.row(0, w, 1), 0, 3);
        Due.is("rows", x.count(10), 2);
    }

    static void p55HowMany() {
        KeyInn x = new KeyInn();
        for (int width = 0; width < 4; width++) {
            Due.is("0 numbers", x.row(width, width, 0), 0);
            Due.is("no number 0", x.write(width, 0, 1), -7);
            Due.is("60 numbers", x.row(width, width, 60), 0);
            Due.is("number 59", x.write(width, 59, 1), 0);
            Due.is("no number 60", x.write(width, 60, 1), -7);
            Due.is("61 numbers", x.row(width, width, 61), -2);
            Due.is("as many as can be told", x.row(width, width, Integer.MAX_VALUE), -2);
            Due.is("it stays", x.write(width, 59, 1), 0);
        }
    }

    static void p55BelowZero() {
        KeyInn x = Due.inn("inn rooms 2 nights 1;key 0 1;guest from 0 to 0 luggage 1;");
        Due.is("-1", x.row(0, 0, -1), -3);
        Due.is("it has nothing", x.judge(0), -6);
        x.row(0, 2, 2);
        x.write(0, 1, 99);
        Due.is("-1", x.row(0, 3, -1), -3);
        Due.is("the lowest", x.row(0, 3, Integer.MIN_VALUE), -3);
        Due.is("numbers stay", x.judge(0), 1);
        Due.is("the last stays", x.write(0, 1, 99), 0);
        Due.is("none behind it", x.write(0, 2, 99), -7);
        x.row(1, 2, 2);
        Due.is("the width stays", x.paste(1, 0, 0, 0, 2), 0);
    }

    static void p55AbsentAheadOfBelowZero() {
        KeyInn x = new KeyInn();
        Due.is("no such slot", x.row(4, 0, -1), -2);
        Due.is("no such slot", x.row(-1, 0, -1), -2);
        Due.is("no such width", x.row(0, 4, -1), -2);
        Due.is("no such width", x.row(0, -1, -1), -2);
    }

    static void p55AbsentTheSlotStays() {
        KeyInn x = Due.inn("inn rooms 2 nights 1;key 0 1;guest from 0 to 0 luggage 1;");
        x.row(0, 2, 1);
        x.row(0, 4, 5);
        x.row(0, 2, 61);
        Due.is("one number", x.judge(0), 1);
        Due.is("no other", x.write(0, 1, 0), -7);
    }

    static void p55AllZeroInPlaceOfAnother() {
        KeyInn x = Due.inn("inn rooms 2 nights 1;key 0 1;guest from 0 to 0 luggage 1;");
        x.row(0, 2, 3);
        for (int i = 0; i < 3; i++) {
            x.write(0, i, 99);
        }
        Due.is("can't be", x.judge(0), 0);
        Due.is("anew", x.row(0, 2, 3), 0);
        Due.is("0 can be", x.judge(0), 1);
        Due.is("of one", x.row(0, 2, 1), 0);
        Due.is("no number 1", x.write(0, 1, 1), -7);
        Due.is("of none", x.row(0, 2, 0), 0);
        Due.is("of three", x.row(0, 3, 3), 0);
        Due.is("0 can be", x.judge(0), 1);
    }

    // ---- write: "cut to its WIDTH: 0. -2: there is no such SLOT; -6: it has nothing; -7: there is no such number" ----

    static void p56SuchSlots() {
        KeyInn x = new KeyInn();
        for (int s = 0; s < 4; s++) {
            x.row(s, 3, 1);
        }
        Due.bounds("write", s -> x.write(s, 0, 1), 0, 3);
        Due.is("no such slot ahead of no such number", x.write(4, 1, 1), -2);
    }

    static void p56Nothing() {
        KeyInn x = new KeyInn();
        Due.is("number 0", x.write(0, 0, 1), -6);
        Due.is("number -1", x.write(0, -1, 1), -6);
        Due.is("number 60", x.write(3, 60, 1), -6);
    }

    static void p56SuchNumbers() {
        KeyInn x = new KeyInn();
        x.row(0, 2, 3);
        Due.is("the first", x.write(0, 0, 1), 0);
        Due.is("the last", x.write(0, 2, 1), 0);
        for (int i : new int[] {3, 4, 60, -1, Integer.MIN_VALUE, Integer.MAX_VALUE}) {
            Due.is("number " + i, x.write(0, i, 1), -7);
        }
    }

    static void p56RefusedNothingHappens() {
        KeyInn x = Due.inn("inn rooms 2 nights 1;key 0 1;guest from 0 to 0 luggage 1;");
        x.row(0, 2, 1);
        x.write(0, 1, 99);
        x.write(0, -1, 99);
        x.write(4, 0, 99);
        Due.is("number 0 is 0", x.judge(0), 1);
    }

    /** 100 is a booking of guest 0 in room 1 by key 0: cut to each width it is 100 again. */
    static void p56CutToItsWidth() {
        KeyInn x = Due.inn("inn rooms 2 nights 1;key 0 1;guest from 0 to 0 luggage 1;");
        for (int width = 0; width < 4; width++) {
            x.row(0, width, 1);
            if (width < 3) {
                long over = 1L << WIDTH_BITS[width];
                for (long v : new long[] {over + 100, 100 - over, 77 * over + 100, Long.MIN_VALUE + 100}) {
                    x.write(0, 0, 99);
                    x.write(0, 0, v);
                    Due.is("width " + width + ", " + v, x.judge(0), 1);
                }
            }
            for (int bit = 0; bit < WIDTH_BITS[width]; bit++) {
                x.write(0, 0, 100);
                Due.is("100", x.judge(0), 1);
                x.write(0, 0, 100 ^ 1L << bit);
                // 100 without its bit 6 is 36, without 5: 68, and so on: none of them can be.
                Due.is("width " + width + ", bit " + bit, x.judge(0), 0);
            }
        }
    }

    static void p56LeastAndGreatestOfWidths() {
        // 127 is no booking (room 1, key 27); so are all ends of the widths.
        KeyInn x = Due.inn(FULL);
        x.row(0, 0, 1);
        x.write(0, 0, 127);
        Due.is("a byte's 127", x.judge(0), 0);
        x.write(0, 0, 111);
        Due.is("room 1, key 11", x.judge(0), 1);
        x.write(0, 0, 201);
        Due.is("a byte's 201 is below 0", x.judge(0), 0);
        x.row(0, 1, 1);
        x.write(0, 0, 30303);
        Due.is("two bytes: guest 3", x.judge(0), 1);
        x.write(0, 0, 40404);
        Due.is("two bytes: 40404 is below 0", x.judge(0), 0);
        x.row(0, 2, 1);
        x.write(0, 0, 40404);
        Due.is("four bytes: guest 4", x.judge(0), 1);
    }

    // ---- paste: "-2 .. -6: one has nothing; -8: they are not of one WIDTH; -7, and nothing happens: .." ----

    /** Four guests by four keys apart: numbers 0, 10201, 20402, 30603 are four bookings. */
    private static KeyInn pasting() {
        KeyInn x = Due.inn("inn rooms 8 nights 1;key 0 1;key 2 3;key 4 5;key 6 7;" + "guest from 0 to 0 luggage 1;".repeat(4));
        x.row(0, 2, 4);
        x.row(1, 2, 4);
        for (int i = 0; i < 4; i++) {
            x.write(0, i, 10000 * i + 200 * i + i);
            x.write(1, i, 99);
        }
        x.row(2, 3, 4);
        Due.is("slot 0", x.judge(0), 4);
        Due.is("slot 1", x.judge(1), 0);
        return x;
    }

    static void p57SuchSlots() {
        KeyInn x = new KeyInn();
        for (int s = 0; s < 4; s++) {
            x.row(s, 1, 2);
        }
        Due.bounds("from", s -> x.paste(s, 0, 0, 0, 1), 0, 3);
        Due.bounds("to", s -> x.paste(0, 0, s, 0, 1), 0, 3);
    }

    static void p57Nothing() {
        KeyInn x = pasting();
        Due.is("from nothing", x.paste(3, 0, 0, 0, 1), -6);
        Due.is("to nothing", x.paste(0, 0, 3, 0, 1), -6);
        Due.is("nothing to nothing", x.paste(3, 0, 3, 0, 0), -6);
        Due.is("no such slot ahead of it", x.paste(3, 0, 4, 0, 1), -2);
        Due.is("no such slot ahead of it", x.paste(-1, 0, 3, 0, 1), -2);
        Due.is("it ahead of places", x.paste(3, -1, 0, -1, -1), -6);
    }

    static void p57Widths() {
        KeyInn x = new KeyInn();
        for (int s = 0; s < 4; s++) {
            x.row(s, s, 2);
        }
        for (int s = 0; s < 4; s++) {
            for (int to = 0; to < 4; to++) {
                Due.is(s + " to " + to, x.paste(s, 0, to, 0, 2), s == to ? 0 : -8);
                Due.is(s + " to " + to + ", none", x.paste(s, 0, to, 0, 0), s == to ? 0 : -8);
                Due.is(s + " to " + to + ", beyond", x.paste(s, 0, to, 0, 3), s == to ? -7 : -8);
            }
        }
    }

    static void p57BeyondTheirRows() {
        KeyInn x = pasting();
        int[][] wrong = {{0, 0, 5}, {1, 0, 4}, {0, 1, 4}, {4, 0, 1}, {0, 4, 1}, {3, 0, 2}, {0, 3, 2}, {60, 0, 1}, {0, 60, 1},
            {0, 0, Integer.MAX_VALUE}, {1, 0, Integer.MAX_VALUE}, {Integer.MAX_VALUE, 0, 1}, {0, Integer.MAX_VALUE, 1},
            {Integer.MAX_VALUE, Integer.MAX_VALUE, Integer.MAX_VALUE}, {Integer.MAX_VALUE, 0, 2}};
        refused(x, wrong);
    }

    static void p57BelowZero() {
        KeyInn x = pasting();
        int[][] wrong = {{-1, 0, 1}, {0, -1, 1}, {0, 0, -1}, {-1, 0, 0}, {0, -1, 0}, {-1, -1, 2}, {2, 2, -2}, {5, 0, -1}, {0, 5, -1},
            {Integer.MIN_VALUE, 0, 1}, {0, Integer.MIN_VALUE, 1}, {0, 0, Integer.MIN_VALUE}, {Integer.MIN_VALUE, 0, Integer.MIN_VALUE}};
        refused(x, wrong);
    }

    private static void refused(KeyInn x, int[][] wrong) {
        for (int[] w : wrong) {
            String call = w[0] + ", " + w[1] + ", " + w[2];
            Due.is(call, x.paste(0, w[0], 1, w[1], w[2]), -7);
            Due.is(call + " to its own", x.paste(0, w[0], 0, w[1], w[2]), -7);
            Due.is(call + ": nothing happens", x.judge(1), 0);
            Due.is(call + ": nothing happens", x.judge(0), 4);
        }
    }

    static void p57None() {
        KeyInn x = pasting();
        Due.is("at the start", x.paste(0, 0, 1, 0, 0), 0);
        Due.is("at the end", x.paste(0, 4, 1, 4, 0), 0);
        Due.is("nothing came", x.judge(1), 0);
        Due.is("behind the end", x.paste(0, 5, 1, 0, 0), -7);
        Due.is("behind the end there", x.paste(0, 0, 1, 5, 0), -7);
        x.row(3, 2, 0);
        Due.is("of a row of none", x.paste(3, 0, 3, 0, 0), 0);
        Due.is("one of a row of none", x.paste(3, 0, 3, 0, 1), -7);
    }

    static void p57All() {
        KeyInn x = pasting();
        Due.is("all four", x.paste(0, 0, 1, 0, 4), 0);
        Due.is("four", x.judge(1), 4);
        Due.is("they stay", x.judge(0), 4);
        for (int s = 0; s < 2; s++) {
            x.row(s, 3, 60);
        }
        Due.is("all sixty", x.paste(0, 0, 1, 0, 60), 0);
        Due.is("sixty and one", x.paste(0, 0, 1, 0, 61), -7);
    }

    static void p57FirstAndLast() {
        KeyInn x = pasting();
        Due.is("the first", x.paste(0, 0, 1, 0, 1), 0);
        Due.is("one", x.judge(1), 1);
        Due.is("the others but the last", x.paste(0, 1, 1, 1, 2), 0);
        Due.is("three", x.judge(1), 3);
        Due.is("the last", x.paste(0, 3, 1, 3, 1), 0);
        Due.is("four", x.judge(1), 4);
    }

    static void p57AsTheyWere() {
        KeyInn x = pasting();
        // 0 1 2 3 becomes 0 0 1 2, and then 0 1 2 2.
        Due.is("forward", x.paste(0, 0, 0, 1, 3), 0);
        Due.is("0 twice", x.judge(0), 1);
        Due.is("back", x.paste(0, 1, 0, 0, 3), 0);
        Due.is("0, 1, 2, and 2 again", x.judge(0), 3);
        Due.is("onto itself", x.paste(0, 0, 0, 0, 4), 0);
        Due.is("as it was", x.judge(0), 3);
    }

    static void p57RowsOfOtherLengths() {
        KeyInn x = pasting();
        x.row(3, 2, 6);
        Due.is("to the end of a longer one", x.paste(0, 0, 3, 2, 4), 0);
        Due.is("one too far", x.paste(0, 0, 3, 3, 4), -7);
        Due.is("from a longer one", x.paste(3, 2, 1, 0, 4), 0);
        Due.is("four", x.judge(1), 4);
        Due.is("more than the other has", x.paste(3, 0, 1, 0, 5), -7);
    }
}
