/** Terms, refusals: each sentence that names an edge by itself. */
public final class RefusalEdgesTest {
    private static final Check CHECK = new Check();
    private static final int[] FAR = {Integer.MIN_VALUE, Integer.MAX_VALUE};

    private static void due(String call, long got, long want) {
        CHECK.due(call, got, want);
    }

    private static HelterSlide five() {
        return Check.with("1111111111;p1,p1,p1,p1,p1");
    }

    // ---- the constants

    private static void constants() {
        int[] told = {HelterSlide.BAD, HelterSlide.NOT, HelterSlide.FULL, HelterSlide.NONE,
            HelterSlide.NULL, HelterSlide.CAST, HelterSlide.INDEX, HelterSlide.SIZE};
        int[] want = {-1, -2, -3, -4, -11, -12, -13, -14};
        for (int i = 0; i < want.length; i++) {
            due("constant " + i, told[i], want[i]);
        }
    }

    // ---- BAD ahead of all others

    private static void badAheadOfFullForRider() {
        HelterSlide x = five();
        due("rider(0, 1, 0)", x.rider(0, 1, 0), -3);
        due("rider(-1, 1, 0)", x.rider(-1, 1, 0), -1);
        due("rider(5, 1, 0)", x.rider(5, 1, 0), -1);
        due("rider(0, 0, 0)", x.rider(0, 0, 0), -1);
        due("rider(0, 21, 0)", x.rider(0, 21, 0), -1);
        due("rider(0, 1, -1)", x.rider(0, 1, -1), -1);
        due("rider(0, 1, 8)", x.rider(0, 1, 8), -1);
    }

    private static void badAheadOfFullForType() {
        HelterSlide x = new HelterSlide();
        for (int i = 0; i < 70; i++) {
            x.type('1');
        }
        due("type('1')", x.type('1'), -3);
        due("type(31)", x.type(31), -1);
        due("type(127)", x.type(127), -1);
    }

    private static void badAheadOfNone() {
        HelterSlide x = Check.with("9999999999;p1");
        due("at(0, 2)", x.at(0, 2), -4);
        due("at(10, 2)", x.at(10, 2), -1);
        due("at(-1, 2)", x.at(-1, 2), -1);
        due("speed(0, 9)", x.speed(0, 9), -4);
        due("speed(0, 10)", x.speed(0, 10), -1);
        due("speed(0, -1)", x.speed(0, -1), -1);
        due("fast(0, 0)", x.fast(0, 0), -4);
        due("fast(0, 2)", x.fast(0, 2), -1);
        due("fast(0, -1)", x.fast(0, -1), -1);
        due("waxes(0, 7)", x.waxes(0, 7), -4);
        due("waxes(0, 8)", x.waxes(0, 8), -1);
        due("waxes(0, -1)", x.waxes(0, -1), -1);
        due("order(1)", x.order(1), -4);
        due("order(-2)", x.order(-2), -1);
    }

    private static void badAheadOfSize() {
        HelterSlide x = new HelterSlide();
        due("sheet(0, 0, -1)", x.sheet(0, 0, -1), -14);
        due("sheet(4, 0, -1)", x.sheet(4, 0, -1), -1);
        due("sheet(-1, 0, -1)", x.sheet(-1, 0, -1), -1);
        due("sheet(0, 4, -1)", x.sheet(0, 4, -1), -1);
        due("sheet(0, -1, -1)", x.sheet(0, -1, -1), -1);
    }

    /** Sheet 0 is nothing, sheet 1 a row of another lane, sheet 2 without items. */
    private static HelterSlide sheeted() {
        HelterSlide x = Check.with("1111111111;p1");
        x.sheet(1, 3, 12);
        x.sheet(2, 0, 0);
        return x;
    }

    private static void badAheadOfTheMachinesForClocked() {
        int[] refused = {-11, -12, -13};
        HelterSlide x = sheeted();
        for (int s = 0; s < 3; s++) {
            due("clocked, sheet " + s, x.clocked(0, 0, s, 0, 0, 1, 0), refused[s]);
            due("clocked, rider 1", x.clocked(1, 0, s, 0, 0, 1, 0), -1);
            due("clocked, rider -1", x.clocked(-1, 0, s, 0, 0, 1, 0), -1);
            due("clocked, turn 10", x.clocked(0, 10, s, 0, 0, 1, 0), -1);
            due("clocked, turn -1", x.clocked(0, -1, s, 0, 0, 1, 0), -1);
            due("clocked, n 0", x.clocked(0, 0, s, 0, 0, 0, 0), -1);
            due("clocked, n -1", x.clocked(0, 0, s, 0, 0, -1, 0), -1);
            due("clocked, n 11", x.clocked(0, 0, s, 0, 0, 11, 0), -1);
            due("clocked, beyond turn 9", x.clocked(0, 5, s, 0, 0, 6, 0), -1);
            due("clocked, what 2", x.clocked(0, 0, s, 0, 0, 1, 2), -1);
            due("clocked, what -1", x.clocked(0, 0, s, 0, 0, 1, -1), -1);
            due("clocked, lane 4", x.clocked(0, 0, s, 4, 0, 1, 0), -1);
            due("clocked, lane -1", x.clocked(0, 0, s, -1, 0, 1, 0), -1);
        }
        due("clocked, sheet 4", x.clocked(0, 0, 4, 0, 0, 1, 0), -1);
        due("clocked, sheet -1", x.clocked(0, 0, -1, 0, 0, 1, 0), -1);
    }

    private static void badAheadOfTheMachinesForFilm() {
        int[] refused = {-11, -12, -13};
        HelterSlide x = sheeted();
        for (int s = 0; s < 3; s++) {
            due("film, sheet " + s, x.film(0, 1, s, 0, 0), refused[s]);
            due("film, rider 1", x.film(1, 1, s, 0, 0), -1);
            due("film, rider -1", x.film(-1, 1, s, 0, 0), -1);
            due("film, n 0", x.film(0, 0, s, 0, 0), -1);
            due("film, n -1", x.film(0, -1, s, 0, 0), -1);
            due("film, n 11", x.film(0, 11, s, 0, 0), -1);
            due("film, lane 4", x.film(0, 1, s, 4, 0), -1);
            due("film, lane -1", x.film(0, 1, s, -1, 0), -1);
        }
        due("film, sheet 4", x.film(0, 1, 4, 0, 0), -1);
        due("film, sheet -1", x.film(0, 1, -1, 0, 0), -1);
    }

    private static void badAheadOfTheMachinesForItem() {
        int[] refused = {-11, -12, -13};
        HelterSlide x = sheeted();
        for (int s = 0; s < 3; s++) {
            due("item, sheet " + s, x.item(s, 0, 0, 1), refused[s]);
            due("item, lane 4", x.item(s, 4, 0, 1), -1);
            due("item, lane -1", x.item(s, -1, 0, 1), -1);
        }
        due("item, sheet 4", x.item(4, 0, -1, 1), -1);
        due("item, sheet -1", x.item(-1, 0, -1, 1), -1);
    }

    private static void badAheadOfTheMachinesForCopy() {
        HelterSlide x = sheeted();
        due("copy, from nothing", x.copy(0, -1, 1, -1, -1), -11);
        due("copy, to 4", x.copy(0, -1, 4, -1, -1), -1);
        due("copy, to -1", x.copy(0, -1, -1, -1, -1), -1);
        due("copy, from 4", x.copy(4, -1, 0, -1, -1), -1);
        due("copy, from -1", x.copy(-1, -1, 0, -1, -1), -1);
        due("copy, both", x.copy(4, 0, -1, 0, 0), -1);
    }

    // ---- NULL, CAST, INDEX in this order

    private static void nullAheadOfCastAndIndex() {
        HelterSlide x = sheeted();
        due("clocked", x.clocked(0, 0, 0, 3, -1, 1, 0), -11);
        due("film", x.film(0, 1, 0, 3, -1), -11);
        due("item", x.item(0, 3, -1, 0), -11);
        due("copy, from nothing", x.copy(0, -1, 1, 0, 1), -11);
        due("copy, to nothing", x.copy(1, -1, 0, 0, 1), -11);
        due("copy, nothing to itself", x.copy(0, 0, 0, 0, 0), -11);
        due("copy, no item from nothing", x.copy(0, 0, 1, 0, 0), -11);
        due("copy, no item to nothing", x.copy(1, 0, 0, 0, 0), -11);
    }

    private static void castAheadOfIndex() {
        HelterSlide x = sheeted();
        due("clocked", x.clocked(0, 0, 1, 2, -1, 1, 0), -12);
        due("film", x.film(0, 1, 1, 2, 12), -12);
        due("item", x.item(1, 2, 12, 0), -12);
        due("copy, i", x.copy(1, 13, 2, 0, 0), -12);
        due("copy, j", x.copy(1, 0, 2, 1, 0), -12);
        due("copy, n", x.copy(1, 0, 2, 0, -1), -12);
        due("copy, no item", x.copy(1, 0, 2, 0, 0), -12);
    }

    // ---- what there is

    private static void noSuchTurn() {
        HelterSlide x = five();
        for (int turn : new int[] {-1, 10, FAR[0], FAR[1]}) {
            due("at " + turn, x.at(turn, 0), -1);
            due("gains " + turn, x.gains(0, turn, 0), -1);
            due("wax " + turn, x.wax(turn, 5), -1);
            due("hammer " + turn, x.hammer(turn, 5), -1);
            due("speed " + turn, x.speed(0, turn), -1);
            due("may " + turn, x.may(0, turn), -1);
        }
        for (int turn : new int[] {0, 9}) {
            due("at " + turn, x.at(turn, 0), 1);
            due("gains " + turn, x.gains(0, turn, 0), 2);
            due("speed " + turn, x.speed(0, turn), 3 + turn);
            due("may " + turn, x.may(0, turn), turn == 0 ? 4 + 8 + 16 + 32 : 255);
        }
        for (int turn : new int[] {0, 9}) {
            due("wax " + turn, x.wax(turn, 5), 1);
            due("hammer " + turn, x.hammer(turn, 5), 0);
        }
    }

    private static void noSuchRider(HelterSlide x, int r) {
        due("lean " + r, x.lean(r, 0), -1);
        due("of " + r, x.of(r, 0), -1);
        due("gains " + r, x.gains(r, 0, 0), -1);
        due("ride " + r, x.ride(r), -1);
        due("up " + r, x.up(r), -1);
        due("speed " + r, x.speed(r, 0), -1);
        due("ends " + r, x.ends(r), -1);
        due("fast " + r, x.fast(r, 0), -1);
        due("waxes " + r, x.waxes(r, 0), -1);
        due("may " + r, x.may(r, 0), -1);
        due("weight " + r, x.weight(r), -1);
        due("rain " + r, x.rain(r, 0, 0), -1);
        due("clocked " + r, x.clocked(r, 0, 0, 0, 0, 1, 0), -1);
        due("film " + r, x.film(r, 1, 0, 0, 0), -1);
    }

    private static void noSuchRider() {
        HelterSlide x = new HelterSlide();
        for (int r = 0; r < 5; r++) {
            noSuchRider(x, r);
            due("rider " + r, x.rider(0, 1, 0), r);
            due("there he is", x.ends(r), 4);
        }
        for (int r : new int[] {-1, 5, FAR[0], FAR[1]}) {
            noSuchRider(x, r);
        }
    }

    private static void noSuchWhat() {
        HelterSlide x = five();
        x.sheet(0, 0, 1);
        for (int what : new int[] {-1, 8, FAR[0], FAR[1]}) {
            due("of " + what, x.of(0, what), -1);
            due("at " + what, x.at(0, what), -1);
            due("count " + what, x.count(what), -1);
            due("fast " + what, x.fast(0, what), -1);
            due("bump " + what, x.bump(what), -1);
            due("rain " + what, x.rain(0, 0, what), -1);
            due("clocked " + what, x.clocked(0, 0, 0, 0, 0, 1, what), -1);
        }
        due("of 4", x.of(0, 4), -1);
        due("at 3", x.at(0, 3), -1);
        due("fast 2", x.fast(0, 2), -1);
        due("bump 2", x.bump(2), -1);
        due("rain 2", x.rain(0, 0, 2), -1);
        due("clocked 2", x.clocked(0, 0, 0, 0, 0, 1, 2), -1);
        due("of 3", x.of(0, 3), 30);
        due("at 2", x.at(0, 2), -4);
        due("count 7", x.count(7), 0);
        due("fast 1", x.fast(0, 1), 12);
        due("bump 1", x.bump(1), 5);
        due("rain 1", x.rain(0, 0, 1), 1);
        due("clocked 1", x.clocked(0, 0, 0, 0, 0, 1, 1), 0);
    }

    private static void noSuchSheet() {
        HelterSlide x = five();
        for (int s : new int[] {-1, 4, FAR[0], FAR[1]}) {
            due("sheet " + s, x.sheet(s, 0, 1), -1);
            due("drop " + s, x.drop(s), -1);
            due("item " + s, x.item(s, 0, 0, 1), -1);
            due("film " + s, x.film(0, 1, s, 0, 0), -1);
            due("clocked " + s, x.clocked(0, 0, s, 0, 0, 1, 0), -1);
            due("copy from " + s, x.copy(s, 0, 0, 0, 0), -1);
            due("copy to " + s, x.copy(0, 0, s, 0, 0), -1);
        }
        for (int s : new int[] {0, 3}) {
            due("sheet " + s, x.sheet(s, 0, 1), 1);
            due("item " + s, x.item(s, 0, 0, 3), 1);
            due("film " + s, x.film(0, 1, s, 0, 0), 1);
            due("clocked " + s, x.clocked(0, 0, s, 0, 0, 1, 0), 31);
            due("copy " + s, x.copy(s, 0, s, 0, 1), 1);
            due("drop " + s, x.drop(s), 1);
        }
    }

    private static void noSuchLane() {
        HelterSlide x = five();
        x.sheet(0, 0, 1);
        for (int lane : new int[] {-1, 4, FAR[0], FAR[1]}) {
            due("sheet " + lane, x.sheet(0, lane, 1), -1);
            due("item " + lane, x.item(0, lane, 0, 1), -1);
            due("film " + lane, x.film(0, 1, 0, lane, 0), -1);
            due("clocked " + lane, x.clocked(0, 0, 0, lane, 0, 1, 0), -1);
        }
        for (int lane : new int[] {0, 3}) {
            due("sheet " + lane, x.sheet(0, lane, 1), 1);
            due("item " + lane, x.item(0, lane, 0, 1), 1);
            due("film " + lane, x.film(0, 1, 0, lane, 0), 1);
            due("clocked " + lane, x.clocked(0, 0, 0, lane, 0, 1, 0), 31);
        }
    }

    // ---- sets, and what is cut

    private static void setsAreBits() {
        HelterSlide x = Check.with("1111111111;p1,p1,p1,p1,p1");
        due("all five are at the top", x.count(2), 31);
        due("none is through", x.count(3), 0);
        due("all five would be through", x.who(4), 31);
        x.hammer(0, 9);
        x.ride(4);
        x.hammer(0, 0);
        due("stuck on turn 0", x.count(4), 1);
        x.hammer(9, 9);
        x.wax(9, 9);
        x.ride(0);
        due("the first has pushed the last up", x.count(2), 16 + 8 + 4 + 2);
        due("stuck on turn 9", x.count(4), 1 << 9);
    }

    private static void whatIsDividedIsCut() {
        HelterSlide x = Check.with("0000000000;n5,s9,p1");
        due("half of 3", x.gains(0, 1, 0), 1);
        due("9 by 5", x.gains(1, 0, 0), 3);
        x.wax(0, 9);
        x.ride(2);
        x.wax(0, 2);
        due("speed 3 halved", x.speed(0, 0), 1);
    }

    public static void main(String[] args) {
        CHECK.sentence("BAD = -1, NOT = -2, FULL = -3, NONE = -4, NULL = -11, CAST = -12, INDEX = -13, SIZE = -14",
                RefusalEdgesTest::constants);
        CHECK.sentence("of several BAD ahead of all others: FULL of rider", RefusalEdgesTest::badAheadOfFullForRider);
        CHECK.sentence("of several BAD ahead of all others: FULL of type", RefusalEdgesTest::badAheadOfFullForType);
        CHECK.sentence("of several BAD ahead of all others: NONE", RefusalEdgesTest::badAheadOfNone);
        CHECK.sentence("of several BAD ahead of all others: SIZE", RefusalEdgesTest::badAheadOfSize);
        CHECK.sentence("of several BAD ahead of all others: clocked",
                RefusalEdgesTest::badAheadOfTheMachinesForClocked);
        CHECK.sentence("of several BAD ahead of all others: film", RefusalEdgesTest::badAheadOfTheMachinesForFilm);
        CHECK.sentence("of several BAD ahead of all others: item", RefusalEdgesTest::badAheadOfTheMachinesForItem);
        CHECK.sentence("of several BAD ahead of all others: copy", RefusalEdgesTest::badAheadOfTheMachinesForCopy);
        CHECK.sentence("NULL, CAST, INDEX, SIZE in this order: NULL", RefusalEdgesTest::nullAheadOfCastAndIndex);
        CHECK.sentence("NULL, CAST, INDEX, SIZE in this order: CAST", RefusalEdgesTest::castAheadOfIndex);
        CHECK.sentence("BAD -1: TURNS 0 .. 9", RefusalEdgesTest::noSuchTurn);
        CHECK.sentence("BAD -1: RIDERS 0 .. 4, as they come", RefusalEdgesTest::noSuchRider);
        CHECK.sentence("BAD -1: what", RefusalEdgesTest::noSuchWhat);
        CHECK.sentence("BAD -1: sheets 0 .. 3", RefusalEdgesTest::noSuchSheet);
        CHECK.sentence("BAD -1: a LANE 0 .. 3", RefusalEdgesTest::noSuchLane);
        CHECK.sentence("Sets are bits", RefusalEdgesTest::setsAreBits);
        CHECK.sentence("What is divided is cut", RefusalEdgesTest::whatIsDividedIsCut);
        CHECK.end("edges of refusals");
    }
}
