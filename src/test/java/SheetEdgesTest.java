/** Sheets, and what is clocked and filmed: each sentence that names an edge by itself. */
public final class SheetEdgesTest {
    private static final Check CHECK = new Check();
    private static final String SMOOTH = "0000000000";
    private static final int ALL_WEIGHTS = 2097150;
    private static final int FAR = Integer.MAX_VALUE;
    private static final int FAR_BELOW = Integer.MIN_VALUE;

    private static void due(String call, long got, long want) {
        CHECK.due(call, got, want);
    }

    /** Rider 0 is PLAIN, with SPEEDS 4, 6, .. 22, and HEAVY by 1: as PLAIN or STOUT, of any weight. */
    private static HelterSlide plain() {
        return Check.with(SMOOTH + ";p1");
    }

    /** Whether n items from i on are what rider 0, who is PLAIN, has from a turn on. */
    private static void hold(HelterSlide x, int turn, int sheet, int lane, int i, int n) {
        due("sheet " + sheet + " holds " + n + " at " + i, x.clocked(0, turn, sheet, lane, i, n, 1), ALL_WEIGHTS);
    }

    private static void holdNot(HelterSlide x, int turn, int sheet, int lane, int i, int n) {
        due("sheet " + sheet + " holds not " + n + " at " + i, x.clocked(0, turn, sheet, lane, i, n, 1), 0);
    }

    // ---- rows

    private static void nothingAtFirst() {
        HelterSlide x = plain();
        for (int s = 0; s < 4; s++) {
            due("drop", x.drop(s), -11);
            due("item", x.item(s, 0, 0, 1), -11);
            due("film", x.film(0, 1, s, 0, 0), -11);
            due("clocked", x.clocked(0, 0, s, 0, 0, 1, 0), -11);
            due("copy", x.copy(s, 0, s, 0, 0), -11);
        }
    }

    private static void zeroToTwentyFour() {
        HelterSlide x = plain();
        due("0", x.sheet(0, 0, 0), 0);
        due("it is a row", x.drop(0), 0);
        due("24", x.sheet(0, 0, 24), 24);
        due("25", x.sheet(0, 0, 25), -1);
        due("far above", x.sheet(0, 0, FAR), -1);
        due("-1", x.sheet(0, 0, -1), -14);
        due("far below", x.sheet(0, 0, FAR_BELOW), -14);
        due("the last item", x.item(0, 0, 23, 4), 1);
        hold(x, 0, 0, 0, 23, 1);
        due("no more", x.item(0, 0, 24, 4), -13);
    }

    private static void newRow() {
        HelterSlide x = plain();
        x.sheet(0, 0, 12);
        x.film(0, 10, 0, 0, 0);
        due("one of the same lane", x.sheet(0, 0, 12), 12);
        for (int i = 0; i < 10; i++) {
            holdNot(x, i, 0, 0, i, 1);
        }
        x.film(0, 10, 0, 0, 0);
        due("one of another lane", x.sheet(0, 3, 24), 24);
        due("the old lane", x.item(0, 0, 0, 4), -12);
        for (int i = 0; i < 10; i++) {
            holdNot(x, i, 0, 3, i, 1);
        }
        due("a shorter one", x.sheet(0, 3, 1), 1);
        due("beyond it", x.item(0, 3, 1, 4), -13);
        due("a longer one", x.sheet(0, 3, 2), 2);
        due("within it", x.item(0, 3, 1, 4), 1);
    }

    private static void newItems() {
        HelterSlide slow = Check.with("3222222222;p1");
        HelterSlide stuck = Check.with("9000000000;p1");
        for (int lane = 0; lane < 4; lane++) {
            slow.sheet(0, lane, 1);
            stuck.sheet(0, lane, 1);
            due("not speed 1", slow.clocked(0, 0, 0, lane, 0, 1, 1), 0);
            due("not -4", stuck.clocked(0, 0, 0, lane, 0, 1, 1), 0);
        }
    }

    private static void dropped() {
        HelterSlide x = plain();
        x.sheet(0, 2, 24);
        x.sheet(1, 2, 1);
        due("24 items", x.drop(0), 24);
        due("nothing", x.drop(0), -11);
        due("the lane is gone, too", x.item(0, 1, 0, 1), -11);
        due("the other is as it was", x.drop(1), 1);
        x.sheet(0, 2, 0);
        due("no item", x.drop(0), 0);
        due("nothing", x.drop(0), -11);
    }

    private static void fourSheets() {
        HelterSlide x = plain();
        for (int s = 0; s < 4; s++) {
            x.sheet(s, s, s + 10);
            x.film(0, 10 - s, s, s, s);
        }
        for (int s = 0; s < 4; s++) {
            hold(x, 0, s, s, s, 10 - s);
            due("items", x.drop(s), s + 10);
        }
    }

    // ---- item

    private static void lowestBits() {
        HelterSlide x = plain();
        long[] fours = {0x7fffff04L, 0x7fff0004L, 0x7fffffff00000004L, 4L};
        long[] others = {0x14L, 0x104L, 0x10004L, 0x100000004L};
        for (int lane = 0; lane < 4; lane++) {
            x.sheet(0, lane, 3);
            due("item", x.item(0, lane, 1, fours[lane]), 1);
            hold(x, 0, 0, lane, 1, 1);
            x.item(0, lane, 1, fours[lane] | Long.MIN_VALUE);
            due("lane " + lane + ", the highest bit", x.clocked(0, 0, 0, lane, 1, 1, 1), lane == 3 ? 0 : ALL_WEIGHTS);
            x.item(0, lane, 1, others[lane]);
            holdNot(x, 0, 0, lane, 1, 1);
        }
    }

    private static void allWithASign() {
        long[] minusFour = {0xfcL, 0xfffcL, 0xfffffffcL, -4L};
        for (int lane = 0; lane < 4; lane++) {
            HelterSlide x = Check.with("9000000000;p1");
            x.sheet(0, lane, 1);
            x.item(0, lane, 0, minusFour[lane]);
            hold(x, 0, 0, lane, 0, 1);
            x.item(0, lane, 0, -4);
            hold(x, 0, 0, lane, 0, 1);
            x.item(0, lane, 0, lane == 0 ? 0x7cL : minusFour[lane - 1]);
            holdNot(x, 0, 0, lane, 0, 1);
        }
    }

    private static void itemIndex() {
        HelterSlide x = plain();
        x.sheet(0, 1, 3);
        due("-1", x.item(0, 1, -1, 4), -13);
        due("far below", x.item(0, 1, FAR_BELOW, 4), -13);
        due("3", x.item(0, 1, 3, 4), -13);
        due("far above", x.item(0, 1, FAR, 4), -13);
        due("0", x.item(0, 1, 0, 4), 1);
        due("2", x.item(0, 1, 2, 6), 1);
        hold(x, 0, 0, 1, 0, 1);
        hold(x, 1, 0, 1, 2, 1);
        holdNot(x, 0, 0, 1, 1, 1);
        x.sheet(0, 1, 0);
        due("of none", x.item(0, 1, 0, 4), -13);
    }

    // ---- film

    private static void oneToTen() {
        HelterSlide x = plain();
        x.sheet(0, 0, 24);
        due("0", x.film(0, 0, 0, 0, 0), -1);
        due("-1", x.film(0, -1, 0, 0, 0), -1);
        due("11", x.film(0, 11, 0, 0, 0), -1);
        due("far off", x.film(0, FAR, 0, 0, 0) + x.film(0, FAR_BELOW, 0, 0, 0), -2);
        due("1", x.film(0, 1, 0, 0, 0), 1);
        hold(x, 0, 0, 0, 0, 1);
        holdNot(x, 1, 0, 0, 1, 1);
        due("10", x.film(0, 10, 0, 0, 14), 10);
        hold(x, 0, 0, 0, 14, 10);
        holdNot(x, 0, 0, 0, 13, 1);
    }

    private static void filmNotSoFar() {
        HelterSlide x = Check.with("0009000000;c1");
        for (int lane = 0; lane < 4; lane++) {
            x.sheet(0, lane, 10);
            due("film", x.film(0, 10, 0, lane, 0), 10);
            due("4, 6, 6", x.clocked(0, 0, 0, lane, 0, 3, 1), ALL_WEIGHTS);
            due("and no more", x.clocked(0, 3, 0, lane, 3, 7, 1), ALL_WEIGHTS);
            x.sheet(1, lane, 7);
            for (int i = 0; i < 7; i++) {
                x.item(1, lane, i, -4);
            }
            due("these are -4", x.clocked(0, 3, 1, lane, 0, 7, 1), ALL_WEIGHTS);
        }
    }

    private static void filmIndex() {
        HelterSlide x = plain();
        x.sheet(0, 2, 12);
        due("i -1", x.film(0, 1, 0, 2, -1), -13);
        due("i far below", x.film(0, 1, 0, 2, FAR_BELOW), -13);
        due("i 12", x.film(0, 1, 0, 2, 12), -13);
        due("i far above", x.film(0, 10, 0, 2, FAR), -13);
        due("10 from 3 on", x.film(0, 10, 0, 2, 3), -13);
        for (int i = 0; i < 9; i++) {
            holdNot(x, i, 0, 2, i + 3, 1);
        }
        due("10 from 2 on", x.film(0, 10, 0, 2, 2), 10);
        hold(x, 0, 0, 2, 2, 10);
        due("1 from 11 on", x.film(0, 1, 0, 2, 11), 1);
        hold(x, 0, 0, 2, 11, 1);
    }

    // ---- clocked

    private static void clockedTurns() {
        HelterSlide x = plain();
        x.sheet(0, 0, 10);
        x.film(0, 10, 0, 0, 0);
        for (int t = 0; t < 10; t++) {
            hold(x, t, 0, 0, t, 10 - t);
            hold(x, t, 0, 0, t, 1);
            due("beyond turn 9", x.clocked(0, t, 0, 0, 0, 11 - t, 1), -1);
            due("far beyond", x.clocked(0, t, 0, 0, 0, FAR, 1), -1);
            due("none", x.clocked(0, t, 0, 0, t, 0, 1), -1);
        }
        due("n -1", x.clocked(0, 0, 0, 0, 0, -1, 1), -1);
        due("n far below", x.clocked(0, 9, 0, 0, 0, FAR_BELOW, 1), -1);
        due("turn far above", x.clocked(0, FAR, 0, 0, 0, 1, 1), -1);
    }

    private static void clockedIndex() {
        HelterSlide x = plain();
        x.sheet(0, 0, 3);
        due("i -1", x.clocked(0, 0, 0, 0, -1, 1, 0), -13);
        due("i far below", x.clocked(0, 0, 0, 0, FAR_BELOW, 1, 0), -13);
        due("i 3", x.clocked(0, 0, 0, 0, 3, 1, 0), -13);
        due("i far above", x.clocked(0, 0, 0, 0, FAR, 10, 0), -13);
        due("4 of 3", x.clocked(0, 0, 0, 0, 0, 4, 0), -13);
        due("2 from 2 on", x.clocked(0, 0, 0, 0, 2, 2, 0), -13);
        due("3 of 3", x.clocked(0, 0, 0, 0, 0, 3, 0), 0);
        due("1 from 2 on", x.clocked(0, 0, 0, 0, 2, 1, 0), 0);
        x.sheet(0, 0, 0);
        due("1 of none", x.clocked(0, 0, 0, 0, 0, 1, 0), -13);
    }

    private static void kindsOfHim() {
        HelterSlide x = Check.with(SMOOTH + ";p1,s5,n5");
        x.sheet(0, 0, 1);
        due("none", x.clocked(0, 0, 0, 0, 0, 1, 0), 0);
        x.item(0, 0, 0, 4);
        due("all, by weight 1", x.clocked(0, 0, 0, 0, 0, 1, 0), 31);
        due("some, by weight 5", x.clocked(1, 0, 0, 0, 0, 1, 0), 1 + 4 + 16);
        x.item(0, 0, 0, 5);
        due("stout and stander, by weight 5", x.clocked(2, 0, 0, 0, 0, 1, 0), 2 + 8);
        x.hammer(0, 2);
        x.item(0, 0, 0, 6);
        due("a king alone", x.clocked(0, 0, 0, 0, 0, 1, 0), 16);
        x.item(0, 0, 0, 2);
        due("all others", x.clocked(0, 0, 0, 0, 0, 1, 0), 15);
    }

    private static void howHeavy() {
        HelterSlide x = Check.with(SMOOTH + ";s9,p9,n9");
        x.sheet(0, 0, 1);
        x.item(0, 0, 0, 4);
        due("1 to 4", x.clocked(0, 0, 0, 0, 0, 1, 1), 2 + 4 + 8 + 16);
        due("any, if plain", x.clocked(1, 0, 0, 0, 0, 1, 1), ALL_WEIGHTS);
        x.item(0, 0, 0, 7);
        due("15 to 19", x.clocked(0, 0, 0, 0, 0, 1, 1), 31 << 15);
        x.item(0, 0, 0, 8);
        due("20", x.clocked(2, 0, 0, 0, 0, 1, 1), 1 << 20);
        due("none, if plain", x.clocked(1, 0, 0, 0, 0, 1, 1), 0);
        x.item(0, 0, 0, 9);
        due("none", x.clocked(0, 0, 0, 0, 0, 1, 1), 0);
    }

    private static void clockedNotSoFar() {
        HelterSlide x = Check.with("0600000000;n5");
        x.sheet(0, 0, 10);
        x.film(0, 10, 0, 0, 0);
        due("5 and no more", x.clocked(0, 0, 0, 0, 0, 10, 1), 31 << 5);
        due("no more than turn 0", x.clocked(0, 1, 0, 0, 1, 9, 1), (1 << 10) - 2);
        due("all but a stout one come no further", x.clocked(0, 1, 0, 0, 1, 9, 0), 1 + 4 + 8 + 16);
        x.item(0, 0, 1, 1);
        due("the item ahead of -4 counts, too", x.clocked(0, 0, 0, 0, 0, 10, 1), 0);
    }

    private static void clockedEachItem() {
        HelterSlide x = plain();
        for (int wrong = 0; wrong < 10; wrong++) {
            x.sheet(0, 0, 10);
            x.film(0, 10, 0, 0, 0);
            x.item(0, 0, wrong, 0);
            due("not by item " + wrong, x.clocked(0, 0, 0, 0, 0, 10, 1), 0);
        }
    }

    // ---- copy

    private static HelterSlide filmed() {
        HelterSlide x = plain();
        x.sheet(0, 1, 24);
        x.film(0, 10, 0, 1, 5);
        x.sheet(1, 1, 12);
        return x;
    }

    private static void asIfTakenAhead() {
        HelterSlide x = filmed();
        due("to the same, further on", x.copy(0, 5, 0, 8, 10), 10);
        hold(x, 0, 0, 1, 8, 10);
        hold(x, 0, 0, 1, 5, 3);
        due("to the same, further back", x.copy(0, 8, 0, 4, 10), 10);
        hold(x, 0, 0, 1, 4, 10);
        due("to where they are", x.copy(0, 4, 0, 4, 10), 10);
        hold(x, 0, 0, 1, 4, 10);
    }

    private static void toAnotherOne() {
        HelterSlide x = filmed();
        due("ten", x.copy(0, 5, 1, 2, 10), 10);
        hold(x, 0, 1, 1, 2, 10);
        hold(x, 0, 0, 1, 5, 10);
        x.item(0, 1, 5, 99);
        hold(x, 0, 1, 1, 2, 10);
        x.item(1, 1, 3, 99);
        hold(x, 1, 0, 1, 6, 9);
    }

    private static void noItem() {
        HelterSlide x = filmed();
        due("from the first", x.copy(0, 0, 1, 0, 0), 0);
        due("from behind the last", x.copy(0, 24, 1, 12, 0), 0);
        due("i above how many there are", x.copy(0, 25, 1, 0, 0), -13);
        due("j above how many there are", x.copy(0, 0, 1, 13, 0), -13);
        due("i below 0", x.copy(0, -1, 1, 0, 0), -13);
        due("j below 0", x.copy(0, 0, 1, -1, 0), -13);
        due("far off", x.copy(0, FAR, 1, 0, 0) + x.copy(0, 0, 1, FAR_BELOW, 0), -26);
        x.sheet(2, 1, 0);
        due("of none", x.copy(2, 0, 2, 0, 0), 0);
        due("to none", x.copy(0, 24, 2, 0, 0), 0);
        due("above none", x.copy(2, 1, 0, 0, 0), -13);
    }

    private static void nBelowNothing() {
        HelterSlide x = filmed();
        due("-1", x.copy(0, 5, 1, 5, -1), -13);
        due("-1 at the end", x.copy(0, 24, 1, 12, -1), -13);
        due("far below", x.copy(0, 5, 1, 5, FAR_BELOW), -13);
    }

    private static void copyIndex() {
        HelterSlide x = filmed();
        due("i -1", x.copy(0, -1, 1, 0, 2), -13);
        due("j -1", x.copy(0, 5, 1, -1, 2), -13);
        due("beyond the one", x.copy(0, 23, 1, 0, 2), -13);
        due("beyond the other", x.copy(0, 5, 1, 11, 2), -13);
        due("13 to 12", x.copy(0, 0, 1, 0, 13), -13);
        due("far above", x.copy(0, 5, 1, 5, FAR), -13);
        due("i far above", x.copy(0, FAR, 1, 0, 1), -13);
        due("i and n far above", x.copy(0, FAR, 1, 0, FAR), -13);
        due("j and n far above", x.copy(0, 1, 1, FAR, FAR), -13);
        holdNot(x, 0, 1, 1, 11, 1);
        due("to the last", x.copy(0, 5, 1, 11, 1), 1);
        hold(x, 0, 1, 1, 11, 1);
        due("all", x.copy(0, 0, 0, 0, 24), 24);
        due("25", x.copy(0, 0, 0, 0, 25), -13);
    }

    private static void unlikeLanes() {
        for (int from = 0; from < 4; from++) {
            for (int to = 0; to < 4; to++) {
                HelterSlide x = plain();
                x.sheet(0, from, 1);
                x.sheet(1, to, 1);
                due("lanes " + from + ", " + to, x.copy(0, 0, 1, 0, 1), from == to ? 1 : -12);
            }
        }
    }

    private static void takenAsAnotherLane() {
        for (int of = 0; of < 4; of++) {
            for (int as = 0; as < 4; as++) {
                HelterSlide x = plain();
                x.sheet(0, of, 1);
                due("item", x.item(0, as, 0, 4), of == as ? 1 : -12);
                due("film", x.film(0, 1, 0, as, 0), of == as ? 1 : -12);
                due("clocked", x.clocked(0, 0, 0, as, 0, 1, 0), of == as ? 31 : -12);
            }
        }
    }

    public static void main(String[] args) {
        CHECK.sentence("sheets 0 .. 3: nothing (at first)", SheetEdgesTest::nothingAtFirst);
        CHECK.sentence("of 0 to 24 items; BAD: also n above 24; SIZE: n below 0", SheetEdgesTest::zeroToTwentyFour);
        CHECK.sentence("A SHEET holds a new row of a LANE", SheetEdgesTest::newRow);
        CHECK.sentence("A SHEET holds a new row: its items", SheetEdgesTest::newItems);
        CHECK.sentence("A SHEET holds nothing: how many items it had", SheetEdgesTest::dropped);
        CHECK.sentence("sheets 0 .. 3", SheetEdgesTest::fourSheets);
        CHECK.sentence("becomes v, its lowest bits", SheetEdgesTest::lowestBits);
        CHECK.sentence("0 bytes, 1 shorts, 2 ints, 3 longs (all with a sign)", SheetEdgesTest::allWithASign);
        CHECK.sentence("Item i of a SHEET: INDEX", SheetEdgesTest::itemIndex);
        CHECK.sentence("behind TURNS 0 to n less 1 (n 1 .. 10), an item each", SheetEdgesTest::oneToTen);
        CHECK.sentence("(-4: he does not come so far), comes to a SHEET", SheetEdgesTest::filmNotSoFar);
        CHECK.sentence("comes to a SHEET likewise: INDEX", SheetEdgesTest::filmIndex);
        CHECK.sentence("n TURNS (1 .. 10) from TURN t on (all 10 at most); BAD (beyond TURN 9, too)",
                SheetEdgesTest::clockedTurns);
        CHECK.sentence("by n items of a SHEET, from item i on: INDEX", SheetEdgesTest::clockedIndex);
        CHECK.sentence("KINDS (a set) of him by which it would be so", SheetEdgesTest::kindsOfHim);
        CHECK.sentence("how HEAVY (1 .. 20, a set of bits 1 .. 20)", SheetEdgesTest::howHeavy);
        CHECK.sentence("of such a RIDE (-4: he does not come so far)", SheetEdgesTest::clockedNotSoFar);
        CHECK.sentence("a row tells SPEED of one behind n TURNS", SheetEdgesTest::clockedEachItem);
        CHECK.sentence("(or the same), as if all were taken ahead", SheetEdgesTest::asIfTakenAhead);
        CHECK.sentence("n items of a SHEET come to another one", SheetEdgesTest::toAnotherOne);
        CHECK.sentence("with n 0, too, if i or j is above how many there are", SheetEdgesTest::noItem);
        CHECK.sentence("INDEX (n below 0, too", SheetEdgesTest::nBelowNothing);
        CHECK.sentence("copy: INDEX", SheetEdgesTest::copyIndex);
        CHECK.sentence("CAST: of unlike LANES", SheetEdgesTest::unlikeLanes);
        CHECK.sentence("CAST -12: of SHEETS another LANE", SheetEdgesTest::takenAsAnotherLane);
        CHECK.end("edges of sheets");
    }
}
