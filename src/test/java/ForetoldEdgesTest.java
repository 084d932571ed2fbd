/** What is foretold: each sentence that names an edge by itself. */
public final class ForetoldEdgesTest {
    private static final Check CHECK = new Check();
    private static final String SMOOTH = "0000000000";
    private static final String EVEN = "1111111111";

    private static void due(String call, long got, long want) {
        CHECK.due(call, got, want);
    }

    // ---- of whom

    /** Rider 0 is stuck on turn 0, which is smooth now. */
    private static HelterSlide stuckOnASmoothTurn(String riders) {
        HelterSlide x = Check.with(SMOOTH + riders);
        x.wax(0, 9);
        due("stuck", x.ride(0), 10);
        x.wax(0, 0);
        return x;
    }

    private static void notStuckAnyMore() {
        HelterSlide x = stuckOnASmoothTurn(";p1");
        due("speed", x.speed(0, 0), 4);
        due("ends", x.ends(0), 6);
        due("fast", x.fast(0, 1), 22);
        due("who", x.who(6), 1);
        due("waxes", x.waxes(0, 6), 100);
        due("waxes, another", x.waxes(0, 3), 3);
        due("may", x.may(0, 0), 8 + 16 + 32 + 64);
        due("weight", x.weight(0), 1);
        due("bump", x.bump(1), 1);
        due("stuck still", x.at(0, 2), 0);
    }

    private static void notStuckAnyMoreInRain() {
        HelterSlide x = stuckOnASmoothTurn(";p1");
        x.wax(0, 1);
        due("speed 1 is not halved", x.rain(0, 10, 0), 1);
        due("of 1", x.rain(0, 10, 1), 1);
    }

    private static void notStuckAnyMoreWhenClocked() {
        HelterSlide x = stuckOnASmoothTurn(";s20");
        x.sheet(0, 0, 10);
        x.film(0, 10, 0, 0, 0);
        x.up(0);
        due("filmed as if at the top", x.clocked(0, 0, 0, 0, 0, 10, 1), 1 << 20);
        x.undo();
        due("clocked as if at the top", x.clocked(0, 0, 0, 0, 0, 10, 1), 1 << 20);
        due("by kinds, too", x.clocked(0, 0, 0, 0, 0, 10, 0), 2);
    }

    private static void othersAreStuck() {
        HelterSlide x = stuckOnASmoothTurn(";p1,p1,s20");
        due("another is halved", x.speed(1, 0), 2);
        due("and ends so", x.ends(1), 20 % 8);
        due("each alone", x.who(4), 2);
        due("may", x.may(1, 0), 8 + 16);
        due("the heaviest", x.speed(2, 0), 4);
        due("rain", x.rain(1, 10, 0), 1);
        x.wax(0, 1);
        due("rain, halved to 0", x.rain(1, 10, 0), 0);
    }

    private static void oneWhoIsThrough() {
        HelterSlide x = Check.with(SMOOTH + ";p1<1");
        due("through", x.ride(0), 7);
        x.lean(0, 0);
        due("as if at the top", x.ends(0), 6);
        due("speed", x.speed(0, 9), 22);
        due("who", x.who(6), 1);
        due("he is as he was", x.of(0, 3), 7);
    }

    // ---- speed, ends, fast

    private static void notSoFar() {
        HelterSlide x = Check.with("1111911111;p1");
        due("behind turn 3", x.speed(0, 3), 6);
        due("where he is stuck", x.speed(0, 4), -4);
        due("below", x.speed(0, 5), -4);
        due("the last", x.speed(0, 9), -4);
        due("stuck on turn 0", Check.with("4111111111;p1").speed(0, 0), -4);
        HelterSlide y = Check.with("0000000009;c1");
        due("behind turn 8", y.speed(0, 8), 6);
        due("stuck on turn 9", y.speed(0, 9), -4);
    }

    private static void endsOnEachTurn() {
        for (int t = 0; t < 10; t++) {
            HelterSlide x = Check.with(SMOOTH + ";c1");
            x.hammer(t, 9);
            due("turn " + t, x.ends(0), 10 + t);
        }
    }

    private static void endsAsEach() {
        for (int lean = 0; lean < 8; lean++) {
            due("lean " + lean, Check.with(SMOOTH + ";c1<" + lean).ends(0), (6 + lean) % 8);
        }
    }

    private static void stuckOnTurn0() {
        HelterSlide x = Check.with("4000000000;p1");
        due("the turn", x.fast(0, 0), -4);
        due("how great", x.fast(0, 1), -4);
        x.wax(0, 3);
        due("the turn", x.fast(0, 0), 9);
        due("how great", x.fast(0, 1), 19);
    }

    private static void fastFirst() {
        due("all alike", Check.with("0222222222;p1").fast(0, 0), 0);
        due("the last two alike", Check.with("0000000002;p1").fast(0, 0), 8);
        due("from turn 1 on", Check.with(SMOOTH + ";c1").fast(0, 0), 1);
        due("two apart", Check.with("0040000004;p1").fast(0, 0), 8);
        due("30 from turn 4 on", Check.with(SMOOTH + ";s20").fast(0, 0), 4);
        due("the last", Check.with(SMOOTH + ";p1").fast(0, 0), 9);
    }

    private static void fastHowGreat() {
        due("turn 0 alone", Check.with("0999999999;p1").fast(0, 1), 4);
        due("turn 0", Check.with("0999999999;p1").fast(0, 0), 0);
        due("30 at most", Check.with(SMOOTH + ";s20").fast(0, 1), 30);
        due("1", Check.with("3222222222;p1").fast(0, 1), 1);
    }

    // ---- who

    private static void asWhat() {
        HelterSlide x = Check.with(SMOOTH + ";c1<1,c1<2,c1<3,c1<2");
        due("as -1", x.who(-1), -1);
        due("as 8", x.who(8), -1);
        due("as 0", x.who(0), 2 + 8);
        due("as 7", x.who(7), 1);
        due("as 1", x.who(1), 4);
        due("nobody", x.who(6), 0);
        due("far off", x.who(Integer.MIN_VALUE) + x.who(Integer.MAX_VALUE), -2);
    }

    private static void eachAlone() {
        HelterSlide x = Check.with(EVEN + ";p1,p1,p1,p1,p1");
        due("all five", x.who(4), 31);
        HelterSlide y = Check.with("4000000000;p1,p1");
        for (int as = 0; as < 8; as++) {
            due("stuck ones as " + as, y.who(as), 0);
        }
    }

    private static void whoOfNobody() {
        for (int as = 0; as < 8; as++) {
            due("as " + as, new HelterSlide().who(as), 0);
        }
    }

    // ---- wax, may, weight

    private static void waxedFirst() {
        HelterSlide x = Check.with(EVEN + ";p1");
        due("turn 0, rough 0", x.waxes(0, 5), 0);
        due("turn 0, rough 2", x.waxes(0, 3), 2);
        due("turn 1, for on turn 0 he would be stuck", x.waxes(0, 1), 14);
        HelterSlide y = Check.with("0000000009;s20");
        due("rough 0 ahead of rough 1", y.waxes(0, 6), 90);
        HelterSlide c = Check.with(SMOOTH + ";c1");
        due("turn 7, rough 5, ahead of turn 8, rough 3, and turn 9, rough 1", c.waxes(0, 5), 75);
        HelterSlide z = Check.with(SMOOTH + ";s20");
        due("the last turn, most rough", z.waxes(0, 3), 99);
        due("the last turn", z.waxes(0, 4), 98);
    }

    private static void waxedAsItIs() {
        due("he is so", Check.with(EVEN + ";p1").waxes(0, 4), 100);
        due("he is so by more", Check.with(SMOOTH + ";s20").waxes(0, 6), 100);
        HelterSlide x = stuckOnASmoothTurn(";p1<1");
        due("one who is stuck now", x.waxes(0, 7), 100);
        due("he is not so", Check.with("4000000000;p1").waxes(0, 6), 0);
    }

    private static void waxedByNone() {
        due("no number", Check.with(SMOOTH + ";s20").waxes(0, 7), -4);
        HelterSlide x = Check.with("9911111111;p1");
        for (int as = 0; as < 8; as++) {
            due("two are too rough", x.waxes(0, as), -4);
        }
    }

    /** What was hammered, told and ridden since the slide was told counts. */
    private static void foretoldNow() {
        HelterSlide x = Check.with(SMOOTH + ";p1,c1");
        x.hammer(9, 3);
        x.lean(0, 1);
        due("19 and 1, for 18 and 1", x.waxes(0, 3), 1);
        x.hammer(9, 4);
        x.hammer(0, 1);
        due("17 to 15 and 1, by turn 0", x.may(0, 0), 4 + 2 + 1);
        x.hammer(9, 9);
        due("the clerk is stuck by it", x.weight(1), -4);
        due("so by turn 9 both", x.bump(0), 9);
        due("the plain one alone", x.order(-1), 1);
    }

    private static void waxedAsEach() {
        HelterSlide x = Check.with(EVEN + ";p1");
        int[] want = {25, 14, 3, 2, 100, 0, 47, 36};
        for (int as = 0; as < 8; as++) {
            due("as " + as, x.waxes(0, as), want[as]);
        }
        due("as -1", x.waxes(0, -1), -1);
        due("as 8", x.waxes(0, 8), -1);
    }

    private static void mayBeAny() {
        due("all", Check.with(EVEN + ";p1").may(0, 9), 255);
        due("30 to 27", Check.with(SMOOTH + ";s20").may(0, 9), 8 + 16 + 32 + 64);
        due("6 to 1", Check.with("0000000009;c1").may(0, 9), 126);
        due("rough 0 to 3", Check.with("9000000000;p1").may(0, 0), 8 + 16 + 32 + 64);
    }

    private static void mayBeNone() {
        HelterSlide x = Check.with("0000^9000000;c1");
        due("stuck on turn 3", x.may(0, 2), 0);
        due("on that turn", x.may(0, 3), 0);
    }

    private static void leastWeight() {
        due("1", Check.with(EVEN + ";s20").weight(0), 1);
        due("5", Check.with("3333333333;s20").weight(0), 5);
        due("20", Check.with("6666666666;s1").weight(0), 20);
        due("15", Check.with("5555555555;s1").weight(0), 15);
        due("a plain one", Check.with(SMOOTH + ";p20").weight(0), 1);
        due("a stander by half of it", Check.with("0600000000;n1").weight(0), 10);
        due("one who is through", through().weight(0), 1);
    }

    private static HelterSlide through() {
        HelterSlide x = Check.with(SMOOTH + ";s20");
        x.ride(0);
        return x;
    }

    private static void noWeight() {
        due("a stout one", Check.with("7777777777;s20").weight(0), -4);
        due("a plain one", Check.with("4000000000;p20").weight(0), -4);
        due("he is as heavy as he was", Check.with("7777777777;s20").of(0, 1), 20);
    }

    // ---- bump

    private static void bumpFirst() {
        HelterSlide x = Check.with("1111^91111^911;p1,p1");
        due("any of no bumps, first", Check.with(EVEN + ";p1").bump(0), 0);
        due("turn 3 ahead of turn 7", x.bump(0), 3);
        due("both come through", x.bump(1), 2);
        HelterSlide y = Check.with("0000000000^9;c1");
        due("the last", y.bump(0), 9);
        due("one", y.bump(1), 1);
    }

    private static void bumpForMost() {
        HelterSlide x = Check.with("0^80000^900000;k1,p1,c1");
        due("a king and a plain one", x.bump(1), 2);
        due("by turn 0", x.bump(0), 0);
        HelterSlide y = Check.with("00000000^900;c1,p1,c1");
        due("all three", y.bump(1), 3);
        due("by turn 7", y.bump(0), 7);
        due("each alone, not one behind the other", Check.with("4000000000;s20,p1").bump(1), 1);
    }

    private static void bumpOfNone() {
        due("nobody", new HelterSlide().bump(0), 0);
        due("nobody", new HelterSlide().bump(1), 0);
        due("none by any", Check.with("4000000000;p1").bump(1), 0);
        due("then turn 0", Check.with("4000000000;p1").bump(0), 0);
        due("what -1", new HelterSlide().bump(-1), -1);
        due("what 2", new HelterSlide().bump(2), -1);
    }

    // ---- order

    private static void orderOfNobody() {
        HelterSlide x = new HelterSlide();
        due("how many", x.order(-1), 0);
        due("the first", x.order(0), -4);
        due("k -2", x.order(-2), -1);
        due("far below", x.order(Integer.MIN_VALUE), -1);
        HelterSlide y = stuckOnASmoothTurn(";p1");
        due("nobody at the top: how many", y.order(-1), 0);
        due("nobody at the top: the first", y.order(0), -4);
    }

    private static void orderNotSoMany() {
        HelterSlide x = Check.with(EVEN + ";p1,p1");
        due("the second", x.order(1), 1);
        due("a third", x.order(2), -4);
        due("a fifth", x.order(4), -4);
        due("a sixth", x.order(5), -4);
        due("far above", x.order(Integer.MAX_VALUE), -4);
    }

    private static void orderRising() {
        HelterSlide x = Check.with(EVEN + ";p1,p1,p1,p1,p1");
        for (int k = 0; k < 5; k++) {
            due("the " + k, x.order(k), k);
        }
        HelterSlide y = Check.with("4000000000;p1,p1,s20,p1");
        due("all but one in any order with the heavy one first", y.order(-1), 4);
        int[] order = {2, 0, 1, 3};
        for (int k = 0; k < 4; k++) {
            due("the " + k, y.order(k), order[k]);
        }
    }

    private static void orderOfAllOrders() {
        HelterSlide x = Check.with("7000000000;p1,s5,s10,s15,s20");
        due("how many", x.order(-1), 5);
        for (int k = 0; k < 5; k++) {
            due("the " + k, x.order(k), 4 - k);
        }
    }

    /** Rider 0 is stuck and comes up by the first who rides; he would be through, but he does not ride. */
    private static void whoComesUpDoesNot() {
        HelterSlide x = stuckOnASmoothTurn(";p1,p1,s20");
        due("two", x.order(-1), 2);
        due("rider 1", x.order(0), 1);
        due("rider 2", x.order(1), 2);
        due("no more", x.order(2), -4);
    }

    /** The first is stuck, and comes up by the second; each rides once, so he is not through. */
    private static void eachOnce() {
        HelterSlide x = Check.with("4000000000;p1,p1");
        due("nobody is through", x.order(-1), 0);
        due("of like ones the first", x.order(0), 0);
        due("then the other", x.order(1), 1);
        due("no more", x.order(2), -4);
    }

    private static void ofAllThrough() {
        HelterSlide x = Check.with(EVEN + ";p1,p1,s5");
        x.ride(1);
        due("with the one who is through", x.order(-1), 3);
        due("he does not ride", x.order(1), 2);
        x.ride(0);
        x.ride(2);
        due("all are through", x.order(-1), 3);
        due("nobody rides", x.order(0), -4);
    }

    // ---- rain

    private static void rain(HelterSlide x, int c, long above, long below) {
        due("above, c " + c, x.rain(0, c, 0), above);
        due("below, c " + c, x.rain(0, c, 1), below);
    }

    private static void rainByTenths() {
        HelterSlide x = Check.with("3000000000;p1");
        due("c -1", x.rain(0, -1, 0), -1);
        due("c 11", x.rain(0, 11, 0), -1);
        due("far off", x.rain(0, Integer.MIN_VALUE, 1) + x.rain(0, Integer.MAX_VALUE, 1), -2);
        rain(x, 0, 1, 1);
        rain(x, 1, 9, 10);
        rain(x, 9, 1, 10);
        rain(x, 10, 0, 1);
    }

    private static void rainInLowestTerms() {
        HelterSlide x = Check.with("3000000000;p1");
        rain(x, 2, 4, 5);
        rain(x, 4, 3, 5);
        rain(x, 5, 1, 2);
        rain(x, 6, 2, 5);
        rain(x, 8, 1, 5);
    }

    private static void rainOnTenTurns() {
        HelterSlide x = Check.with("3333333333;s5");
        rain(x, 0, 1, 1);
        rain(x, 1, 3486784401L, 10000000000L);
        rain(x, 2, 1048576, 9765625);
        rain(x, 5, 1, 1024);
        rain(x, 9, 1, 10000000000L);
        rain(x, 10, 0, 1);
    }

    private static void rainIsApart() {
        HelterSlide both = Check.with("2200000000;p1");
        rain(both, 1, 81, 100);
        rain(both, 3, 49, 100);
        rain(both, 5, 1, 4);
        HelterSlide either = Check.with("1200000000;p1");
        rain(either, 1, 99, 100);
        rain(either, 3, 91, 100);
        rain(either, 5, 3, 4);
    }

    private static void rainTwoMore() {
        rain(Check.with("1000000000;p1"), 10, 1, 1);
        rain(Check.with("2000000000;p1"), 10, 0, 1);
    }

    private static void rainNineAtMost() {
        rain(Check.with("7^5000000000;k1"), 10, 0, 1);
        rain(Check.with("7^6000000000;k1"), 10, 1, 1);
        rain(Check.with("8^6000000000;k1"), 10, 1, 1);
        rain(Check.with("9^6000000000;k1"), 10, 1, 1);
        rain(Check.with("9^5000000000;k1"), 0, 0, 1);
    }

    private static void rainOnOneWhoNeverIs() {
        rain(Check.with("4000000000;p1"), 0, 0, 1);
        rain(Check.with("4000000000;p1"), 5, 0, 1);
    }

    public static void main(String[] args) {
        CHECK.sentence("if he is STUCK now, he is not any more", ForetoldEdgesTest::notStuckAnyMore);
        CHECK.sentence("if he is STUCK now, he is not any more: RAIN", ForetoldEdgesTest::notStuckAnyMoreInRain);
        CHECK.sentence("if he is STUCK now, he is not any more: CLOCKED", ForetoldEdgesTest::notStuckAnyMoreWhenClocked);
        CHECK.sentence("if he is STUCK now: others are", ForetoldEdgesTest::othersAreStuck);
        CHECK.sentence("as if he were at the TOP", ForetoldEdgesTest::oneWhoIsThrough);
        CHECK.sentence("SPEED of one behind a TURN; none: he does not come so far", ForetoldEdgesTest::notSoFar);
        CHECK.sentence("10 and a TURN: he is STUCK on it", ForetoldEdgesTest::endsOnEachTurn);
        CHECK.sentence("0 to 7: he is THROUGH as that", ForetoldEdgesTest::endsAsEach);
        CHECK.sentence("none: he is STUCK on TURN 0", ForetoldEdgesTest::stuckOnTurn0);
        CHECK.sentence("the TURN behind which SPEED is greatest, of like ones the first", ForetoldEdgesTest::fastFirst);
        CHECK.sentence("how great", ForetoldEdgesTest::fastHowGreat);
        CHECK.sentence("WHO would be THROUGH as x (0 .. 7): RIDERS (a set)", ForetoldEdgesTest::asWhat);
        CHECK.sentence("each of them alone, now", ForetoldEdgesTest::eachAlone);
        CHECK.sentence("WHO would be THROUGH: nobody", ForetoldEdgesTest::whoOfNobody);
        CHECK.sentence("of like ones the first (TURN, then how ROUGH)", ForetoldEdgesTest::waxedFirst);
        CHECK.sentence("100, if he is so as it is", ForetoldEdgesTest::waxedAsItIs);
        CHECK.sentence("WAX: none", ForetoldEdgesTest::waxedByNone);
        CHECK.sentence("FORETOLD, of a RIDE now of one", ForetoldEdgesTest::foretoldNow);
        CHECK.sentence("WAX for one, x (0 .. 7)", ForetoldEdgesTest::waxedAsEach);
        CHECK.sentence("if that TURN were ROUGH by any of 0 .. 9", ForetoldEdgesTest::mayBeAny);
        CHECK.sentence("as what (a set of 0 .. 7) he might be THROUGH: the empty one", ForetoldEdgesTest::mayBeNone);
        CHECK.sentence("the least HEAVY (1 .. 20) by which he would be THROUGH", ForetoldEdgesTest::leastWeight);
        CHECK.sentence("the least HEAVY: none", ForetoldEdgesTest::noWeight);
        CHECK.sentence("the TURN whose BUMP should be 0, of like ones the first", ForetoldEdgesTest::bumpFirst);
        CHECK.sentence("so that most RIDERS (each alone, now) would be THROUGH", ForetoldEdgesTest::bumpForMost);
        CHECK.sentence("BUMP: how many, if none", ForetoldEdgesTest::bumpOfNone);
        CHECK.sentence("ORDER: all who are at the TOP: nobody", ForetoldEdgesTest::orderOfNobody);
        CHECK.sentence("the k-th (NONE: not so many). BAD: k below -1.", ForetoldEdgesTest::orderNotSoMany);
        CHECK.sentence("of like ones the first (by numbers, rising)", ForetoldEdgesTest::orderRising);
        CHECK.sentence("the order by which most are THROUGH: the last of all", ForetoldEdgesTest::orderOfAllOrders);
        CHECK.sentence("(who comes UP by that does not)", ForetoldEdgesTest::whoComesUpDoesNot);
        CHECK.sentence("one behind the other, each once", ForetoldEdgesTest::eachOnce);
        CHECK.sentence("most of all are THROUGH then: how many", ForetoldEdgesTest::ofAllThrough);
        CHECK.sentence("RAIN by c of 10 (0 .. 10)", ForetoldEdgesTest::rainByTenths);
        CHECK.sentence("a fraction in lowest terms", ForetoldEdgesTest::rainInLowestTerms);
        CHECK.sentence("each TURN by c of 10", ForetoldEdgesTest::rainOnTenTurns);
        CHECK.sentence("by c of 10, apart", ForetoldEdgesTest::rainIsApart);
        CHECK.sentence("each TURN is ROUGH by 2 more", ForetoldEdgesTest::rainTwoMore);
        CHECK.sentence("by 2 more (9 at most)", ForetoldEdgesTest::rainNineAtMost);
        CHECK.sentence("how likely one is THROUGH: never", ForetoldEdgesTest::rainOnOneWhoNeverIs);
        CHECK.end("edges of what is foretold");
    }
}
