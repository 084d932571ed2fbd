/** Promises 29 to 34: speeds clocked and filmed, and the sheets that hold them. */
public final class SheetsTest {
    private static final Check CHECK = new Check();
    private static final int ALL_WEIGHTS = 2097150;

    private static void due(String call, long got, long want) {
        CHECK.due(call, got, want);
    }

    /** Items can be seen by clocking alone: rider 0 comes behind turn 0 with speed 3 as PLAIN, CLERK or KING. */
    private static HelterSlide seer() {
        return Check.with("1111111111;p5");
    }

    private static void promise29Clocked() {
        HelterSlide x = Check.with("1111911111;p1,n12");
        x.sheet(0, 0, 12);
        x.film(0, 10, 0, 0, 2);
        due("29 by what kinds", x.clocked(0, 0, 0, 0, 2, 10, 0), 1 + 2 + 4 + 16);
        due("29 how heavy", x.clocked(0, 0, 0, 0, 2, 10, 1), ALL_WEIGHTS);
        due("29 not so far, by all", x.clocked(0, 4, 0, 0, 6, 6, 0), 31);
        due("29 another item", x.clocked(0, 0, 0, 0, 3, 1, 0), 0);
        due("29 a stander of 5 to 9", x.clocked(1, 3, 0, 0, 5, 1, 1), 31 << 5);
        x.item(0, 0, 0, 5);
        due("29 a stander of 10 to 14", x.clocked(1, 0, 0, 0, 0, 1, 1), 31 << 10);
        due("29 by his weight of kinds", x.clocked(1, 0, 0, 0, 0, 1, 0), 2 + 8);
        due("29 nothing is changed", x.of(1, 0), 3);
        due("29 nothing is changed", x.of(1, 1), 12);
        x.ride(0);
        due("29 he is not stuck any more, so a stander comes so far", x.clocked(0, 9, 0, 0, 11, 1, 0), 4 + 16);
        due("29 he comes so far by any weight", x.clocked(0, 9, 0, 0, 11, 1, 1), 0);
    }

    private static void promise29Refused() {
        HelterSlide x = seer();
        x.sheet(0, 0, 12);
        due("29 rider 1", x.clocked(1, 0, 0, 0, 0, 1, 0), -1);
        due("29 rider -1", x.clocked(-1, 0, 0, 0, 0, 1, 0), -1);
        due("29 turn -1", x.clocked(0, -1, 0, 0, 0, 1, 0), -1);
        due("29 turn 10", x.clocked(0, 10, 0, 0, 0, 1, 0), -1);
        due("29 n 0", x.clocked(0, 0, 0, 0, 0, 0, 0), -1);
        due("29 n 11", x.clocked(0, 0, 0, 0, 0, 11, 0), -1);
        due("29 beyond turn 9", x.clocked(0, 9, 0, 0, 0, 2, 0), -1);
        due("29 far beyond", x.clocked(0, 9, 0, 0, 0, 2147483647, 0), -1);
        due("29 what 2", x.clocked(0, 0, 0, 0, 0, 1, 2), -1);
        due("29 what -1", x.clocked(0, 0, 0, 0, 0, 1, -1), -1);
        due("29 sheet 4", x.clocked(0, 0, 4, 0, 0, 1, 0), -1);
        due("29 sheet -1", x.clocked(0, 0, -1, 0, 0, 1, 0), -1);
        due("29 lane 4", x.clocked(0, 0, 0, 4, 0, 1, 0), -1);
        due("29 lane -1", x.clocked(0, 0, 0, -1, 0, 1, 0), -1);
        due("29 BAD ahead of NULL", x.clocked(0, 0, 1, 0, 0, 0, 0), -1);
        due("29 NULL ahead of INDEX", x.clocked(0, 0, 1, 0, -1, 1, 0), -11);
        due("29 CAST ahead of INDEX", x.clocked(0, 0, 0, 1, -1, 1, 0), -12);
        due("29 i -1", x.clocked(0, 0, 0, 0, -1, 1, 0), -13);
        due("29 i of the last", x.clocked(0, 0, 0, 0, 11, 1, 0), 0);
        due("29 one beyond", x.clocked(0, 0, 0, 0, 11, 2, 0), -13);
        due("29 far beyond", x.clocked(0, 0, 0, 0, 2147483647, 2, 0), -13);
    }

    private static void promise30Film() {
        HelterSlide x = seer();
        for (int lane = 0; lane < 4; lane++) {
            due("30 sheet", x.sheet(lane, lane, 12), 12);
            due("30 n items", x.film(0, 3, lane, lane, 9), 3);
            due("30 they are there", x.clocked(0, 0, lane, lane, 9, 3, 1), ALL_WEIGHTS);
            due("30 nothing ahead of them", x.clocked(0, 0, lane, lane, 8, 1, 1), 0);
        }
        x.film(0, 2, 0, 0, 0);
        due("30 no more than n", x.clocked(0, 0, 0, 0, 0, 3, 1), 0);
        due("30 so many", x.clocked(0, 0, 0, 0, 0, 2, 1), ALL_WEIGHTS);
        due("30 nothing else is changed", x.of(0, 3), 30);
        due("30 rider 1", x.film(1, 1, 0, 0, 0), -1);
        due("30 rider -1", x.film(-1, 1, 0, 0, 0), -1);
        due("30 n 0", x.film(0, 0, 0, 0, 0), -1);
        due("30 n 11", x.film(0, 11, 0, 0, 0), -1);
        due("30 sheet 4", x.film(0, 1, 4, 0, 0), -1);
        due("30 lane 4", x.film(0, 1, 0, 4, 0), -1);
        due("30 lane -1", x.film(0, 1, 0, -1, 0), -1);
        due("30 CAST ahead of INDEX", x.film(0, 1, 0, 1, 99), -12);
        due("30 i 3 of 12 by 10", x.film(0, 10, 0, 0, 3), -13);
        due("30 refused, no item came", x.clocked(0, 0, 0, 0, 3, 1, 1), 0);
        due("30 i 2 of 12 by 10", x.film(0, 10, 0, 0, 2), 10);
        due("30 i -1", x.film(0, 1, 0, 0, -1), -13);
        due("30 i far off", x.film(0, 10, 0, 0, 2147483647), -13);
        x.drop(2);
        due("30 NULL ahead of CAST and INDEX", x.film(0, 1, 2, 1, 99), -11);
    }

    private static void promise31Sheet() {
        HelterSlide x = seer();
        due("31 24", x.sheet(3, 3, 24), 24);
        due("31 25", x.sheet(3, 3, 25), -1);
        due("31 far above", x.sheet(3, 3, 2147483647), -1);
        due("31 n -1", x.sheet(3, 3, -1), -14);
        due("31 far below", x.sheet(3, 3, -2147483648), -14);
        due("31 BAD ahead of SIZE", x.sheet(4, 0, -1), -1);
        due("31 sheet -1", x.sheet(-1, 0, 1), -1);
        due("31 lane 4", x.sheet(0, 4, 1), -1);
        due("31 lane -1", x.sheet(0, -1, -1), -1);
        due("31 refused, it is as it was", x.item(3, 3, 23, 3), 1);
        due("31 it has that", x.clocked(0, 0, 3, 3, 23, 1, 1), ALL_WEIGHTS);
        due("31 a new row", x.sheet(3, 0, 24), 24);
        due("31 of another lane", x.item(3, 3, 0, 0), -12);
        due("31 without what was there", x.clocked(0, 0, 3, 0, 23, 1, 1), 0);
        due("31 of none", x.sheet(3, 0, 0), 0);
        due("31 no item", x.item(3, 0, 0, 0), -13);
        due("31 none", x.drop(3), 0);
    }

    private static void promise32Drop() {
        HelterSlide x = new HelterSlide();
        due("32 nothing", x.drop(0), -11);
        x.sheet(0, 2, 17);
        due("32 so many", x.drop(0), 17);
        due("32 nothing", x.drop(0), -11);
        due("32 nothing to put in", x.item(0, 2, 0, 1), -11);
        due("32 sheet 4", x.drop(4), -1);
        due("32 sheet -1", x.drop(-1), -1);
    }

    private static void promise33Item() {
        HelterSlide x = seer();
        long[] cutTo3 = {0x7f03L, 0x7fff0003L, 0x7fffffff00000003L, 3L};
        long[] notCutTo3 = {0x13L, 0x103L, 0x10003L, 0x100000003L};
        for (int lane = 0; lane < 4; lane++) {
            x.sheet(0, lane, 2);
            due("33 item", x.item(0, lane, 1, cutTo3[lane]), 1);
            due("33 its lowest bits", x.clocked(0, 0, 0, lane, 1, 1, 0), 1 + 4 + 16);
            due("33 no other item", x.clocked(0, 0, 0, lane, 0, 1, 0), 0);
            x.item(0, lane, 1, notCutTo3[lane]);
            due("33 all of its bits", x.clocked(0, 0, 0, lane, 1, 1, 0), 0);
        }
        x.hammer(0, 9);
        long[] signed = {0xfcL, 0xfffcL, 0xfffffffcL, -4L};
        for (int lane = 0; lane < 4; lane++) {
            x.sheet(0, lane, 1);
            x.item(0, lane, 0, signed[lane]);
            due("33 with a sign", x.clocked(0, 0, 0, lane, 0, 1, 0), 1 + 2 + 4 + 8);
        }
        due("33 sheet 4", x.item(4, 0, 0, 0), -1);
        due("33 sheet -1", x.item(-1, 0, 0, 0), -1);
        due("33 lane 4", x.item(0, 4, 0, 0), -1);
        due("33 lane -1", x.item(0, -1, 0, 0), -1);
        due("33 NULL", x.item(1, 0, -1, 0), -11);
        due("33 CAST ahead of INDEX", x.item(0, 0, -1, 0), -12);
        due("33 i -1", x.item(0, 3, -1, 0), -13);
        due("33 i 1 of 1", x.item(0, 3, 1, 0), -13);
        due("33 i far off", x.item(0, 3, 2147483647, 0), -13);
    }

    private static void promise34Copy() {
        HelterSlide x = seer();
        x.sheet(0, 1, 24);
        x.film(0, 10, 0, 1, 0);
        due("34 to the same, forward", x.copy(0, 0, 0, 2, 10), 10);
        due("34 as if all were taken ahead", x.clocked(0, 0, 0, 1, 2, 10, 1), ALL_WEIGHTS);
        due("34 to the same, back", x.copy(0, 2, 0, 1, 10), 10);
        due("34 as if all were taken ahead", x.clocked(0, 0, 0, 1, 1, 10, 1), ALL_WEIGHTS);
        x.sheet(1, 1, 5);
        due("34 to another one", x.copy(0, 1, 1, 2, 3), 3);
        due("34 they are there", x.clocked(0, 0, 1, 1, 2, 3, 1), ALL_WEIGHTS);
        due("34 and stay", x.clocked(0, 0, 0, 1, 1, 10, 1), ALL_WEIGHTS);
        x.item(0, 1, 1, 77);
        due("34 each has its own", x.clocked(0, 0, 1, 1, 2, 3, 1), ALL_WEIGHTS);
        due("34 none, at the end", x.copy(0, 24, 1, 5, 0), 0);
        due("34 none, i above", x.copy(0, 25, 1, 5, 0), -13);
        due("34 none, j above", x.copy(0, 24, 1, 6, 0), -13);
        due("34 n -1", x.copy(0, 0, 1, 0, -1), -13);
        due("34 i -1", x.copy(0, -1, 1, 0, 1), -13);
        due("34 j -1", x.copy(0, 0, 1, -1, 1), -13);
        due("34 beyond the first", x.copy(0, 23, 1, 0, 2), -13);
        due("34 beyond the other", x.copy(0, 0, 1, 4, 2), -13);
        due("34 far beyond", x.copy(0, 1, 1, 1, 2147483647), -13);
        due("34 refused, nothing changed", x.clocked(0, 0, 1, 1, 2, 3, 1), ALL_WEIGHTS);
        x.sheet(2, 2, 24);
        due("34 unlike lanes, ahead of INDEX", x.copy(0, -1, 2, 0, 1), -12);
        due("34 unlike lanes of none", x.copy(2, 0, 0, 0, 0), -12);
        due("34 NULL, from", x.copy(3, -1, 0, 0, 1), -11);
        due("34 NULL, to", x.copy(0, -1, 3, 0, 1), -11);
        due("34 from 4", x.copy(4, 0, 3, 0, 1), -1);
        due("34 to 4", x.copy(3, 0, 4, 0, 1), -1);
        due("34 from -1", x.copy(-1, 0, 0, 0, 1), -1);
        due("34 to -1", x.copy(0, 0, -1, 0, 1), -1);
    }

    public static void main(String[] args) {
        promise29Clocked();
        promise29Refused();
        promise30Film();
        promise31Sheet();
        promise32Drop();
        promise33Item();
        promise34Copy();
        CHECK.end("promises 29 to 34");
    }
}
