/** Turns, riders, and a ride: each sentence that names an edge by itself. */
public final class RideEdgesTest {
    private static final Check CHECK = new Check();
    private static final String SMOOTH = "0000000000";

    private static void due(String call, long got, long want) {
        CHECK.due(call, got, want);
    }

    private static void typeOf(HelterSlide x, int r, int kind, int heavy, int lean) {
        due("kind of " + r, x.of(r, 0), kind);
        due("heavy of " + r, x.of(r, 1), heavy);
        due("lean of " + r, x.of(r, 2), lean);
    }

    // ---- at first

    private static void roughAtFirst() {
        HelterSlide x = new HelterSlide();
        for (int t = 0; t < 10; t++) {
            due("rough " + t, x.at(t, 0), 1);
        }
    }

    private static void bumpAtFirst() {
        HelterSlide x = new HelterSlide();
        for (int t = 0; t < 10; t++) {
            due("bump " + t, x.at(t, 1), 0);
        }
    }

    private static void topAtFirst() {
        HelterSlide x = new HelterSlide();
        x.rider(0, 1, 0);
        due("a rider", x.of(0, 3), 30);
        due("one of a slide", Check.with(SMOOTH + ";k1,p1").of(1, 3), 30);
    }

    private static void ridesAtFirst() {
        HelterSlide x = new HelterSlide();
        due("rides", x.count(1), 0);
        x.rider(0, 1, 0);
        x.wax(0, 2);
        x.hammer(0, 2);
        due("rides of no ride", x.count(1), 0);
    }

    private static void drawAtFirst() {
        due("the draw", new HelterSlide().seed(5), 1);
    }

    private static void nobodyAtFirst() {
        HelterSlide x = new HelterSlide();
        due("riders", x.count(0), 0);
        due("at the top", x.count(2), 0);
        due("through", x.count(3), 0);
        due("turns", x.count(4), 0);
        due("stuck", x.at(0, 2), -4);
        due("to be undone", x.count(7), 0);
        due("who", x.who(0), 0);
    }

    private static void oneObjectIsNotAnother() {
        HelterSlide x = new HelterSlide();
        HelterSlide y = new HelterSlide();
        x.rider(0, 1, 0);
        x.wax(0, 9);
        x.seed(9);
        x.image();
        x.sheet(0, 0, 3);
        x.type('1');
        due("riders", y.count(0), 0);
        due("rough", y.at(0, 0), 1);
        due("the draw", y.seed(1), 1);
        due("the image", y.restore(), -4);
        due("a sheet", y.drop(0), -11);
        due("the tape", y.type('1'), 1);
    }

    // ---- riders

    private static void fiveRiders() {
        HelterSlide x = new HelterSlide();
        for (int r = 0; r < 5; r++) {
            due("rider", x.rider(0, 1, 0), r);
            due("riders", x.count(0), r + 1);
        }
        due("a sixth", x.rider(0, 1, 0), -3);
        due("riders", x.count(0), 5);
    }

    private static void fiveRidersOfASlide() {
        HelterSlide x = Check.with(SMOOTH + ";p1,p1,p1,p1,p1");
        due("a sixth", x.rider(0, 1, 0), -3);
        due("none", Check.told(x, SMOOTH), 0);
        due("a first", x.rider(0, 1, 0), 0);
    }

    private static void kinds() {
        HelterSlide x = new HelterSlide();
        due("kind -1", x.rider(-1, 1, 0), -1);
        due("kind 5", x.rider(5, 1, 0), -1);
        due("kind 0", x.rider(0, 1, 0), 0);
        due("kind 4", x.rider(4, 1, 0), 1);
        typeOf(x, 0, 0, 1, 0);
        typeOf(x, 1, 4, 1, 0);
    }

    private static void heavies() {
        HelterSlide x = new HelterSlide();
        due("heavy 0", x.rider(0, 0, 0), -1);
        due("heavy -1", x.rider(0, -1, 0), -1);
        due("heavy 21", x.rider(0, 21, 0), -1);
        due("heavy 1", x.rider(0, 1, 0), 0);
        due("heavy 20", x.rider(0, 20, 0), 1);
        typeOf(x, 0, 0, 1, 0);
        typeOf(x, 1, 0, 20, 0);
    }

    private static void leans() {
        HelterSlide x = new HelterSlide();
        due("lean -1", x.rider(0, 1, -1), -1);
        due("lean 8", x.rider(0, 1, 8), -1);
        due("lean 0", x.rider(0, 1, 0), 0);
        due("lean 7", x.rider(0, 1, 7), 1);
        typeOf(x, 0, 0, 1, 0);
        typeOf(x, 1, 0, 1, 7);
    }

    private static void leanBecomes() {
        HelterSlide x = Check.with(SMOOTH + ";p1<4,p1<4");
        due("lean -1", x.lean(0, -1), -1);
        due("lean 8", x.lean(0, 8), -1);
        due("lean 7", x.lean(0, 7), 4);
        due("lean 0", x.lean(0, 0), 7);
        due("the same", x.lean(0, 0), 0);
        due("the other's", x.of(1, 2), 4);
    }

    private static void leanOfOneWhoIsThroughOrStuck() {
        HelterSlide x = Check.with(SMOOTH + ";p1,p1");
        x.ride(0);
        x.hammer(0, 9);
        x.ride(1);
        due("of one who is through", x.lean(0, 1), 0);
        due("he is what he is", x.of(0, 3), 6);
        due("of one who is stuck", x.lean(1, 1), 0);
        due("he is where he is", x.of(1, 3), 10);
    }

    // ---- what one gains

    private static void plainGains() {
        HelterSlide x = Check.with("0^9111111111^9;p1,p20");
        for (int t = 0; t < 10; t++) {
            due("turn " + t, x.gains(0, t, 0) + 10 * x.gains(1, t, 30), 22);
        }
    }

    private static void stoutGainsByFives() {
        int[] heavy = {1, 4, 5, 9, 10, 14, 15, 19, 20};
        int[] gain = {2, 2, 3, 3, 4, 4, 5, 5, 6};
        HelterSlide x = new HelterSlide();
        for (int i = 0; i < heavy.length; i++) {
            if (i == 5) {
                x = new HelterSlide();
            }
            due("heavy " + heavy[i], x.gains(x.rider(1, heavy[i], 0), i, 30), gain[i]);
        }
    }

    private static void clerkGainsBelowSix() {
        HelterSlide x = Check.with("0^9111111111;c20");
        due("speed 0", x.gains(0, 0, 0), 2);
        due("speed 5", x.gains(0, 0, 5), 2);
        due("speed 6", x.gains(0, 0, 6), 0);
        due("speed 30", x.gains(0, 9, 30), 0);
    }

    private static void standerGainsOnEvenTurns() {
        HelterSlide x = Check.with(SMOOTH + ";n4,n5,n20");
        for (int t = 0; t < 10; t += 2) {
            due("turn " + t, x.gains(0, t, 30), 2);
            due("turn " + t, x.gains(1, t, 0), 3);
            due("turn " + t, x.gains(2, t, 9), 6);
            due("turn " + (t + 1), x.gains(0, t + 1, 30), 1);
            due("turn " + (t + 1), x.gains(1, t + 1, 0), 1);
            due("turn " + (t + 1), x.gains(2, t + 1, 9), 3);
        }
    }

    private static void kingGainsTheBumpTwice() {
        HelterSlide x = Check.with("0^900000000^10^4;k20");
        due("bump 9", x.gains(0, 0, 5), 20);
        due("bump 9, as a clerk 2 less", x.gains(0, 0, 6), 18);
        due("bump 0", x.gains(0, 1, 5), 2);
        due("bump 0, as a clerk 2 less", x.gains(0, 1, 6), 0);
        due("of no turn beside", x.gains(0, 7, 0), 2);
        due("of that turn", x.gains(0, 8, 0), 4);
        due("of that turn", x.gains(0, 9, 0), 10);
    }

    private static void gainsBySpeed() {
        HelterSlide x = Check.with(SMOOTH + ";c1");
        due("speed -1", x.gains(0, 0, -1), -1);
        due("speed 31", x.gains(0, 0, 31), -1);
        due("speed 0", x.gains(0, 0, 0), 2);
        due("speed 30", x.gains(0, 0, 30), 0);
        due("far off", x.gains(0, 0, Integer.MIN_VALUE) + x.gains(0, 0, Integer.MAX_VALUE), -2);
    }

    /** A clerk of speed 6 behind turn 1 gains no more; of speed 5 he does. */
    private static void clerkGainsBySpeedAhead() {
        HelterSlide x = Check.with(SMOOTH + ";c1");
        due("6 behind turn 1", x.speed(0, 1), 6);
        due("no more behind turn 2", x.speed(0, 2), 6);
        x.wax(0, 1);
        due("5 behind turn 1", x.speed(0, 1), 5);
        due("2 more behind turn 2", x.speed(0, 2), 7);
    }

    // ---- a ride

    private static void beginsWithTwo() {
        due("2 and 2", Check.with(SMOOTH + ";p1").speed(0, 0), 4);
        due("less 3", Check.with("3000000000;p1").ride(0), 1 + 18 - 16);
        due("less 4", Check.with("4000000000;p1").ride(0), 10);
    }

    private static void thirtyAtMost() {
        HelterSlide x = Check.with("0000200000;s20");
        due("30 as it comes", x.speed(0, 4), 30);
        due("36 is 30", x.speed(0, 5), 30);
        x.wax(4, 1);
        due("31 is 30", x.speed(0, 4), 30);
        x.wax(5, 9);
        due("so 27 comes", x.speed(0, 5), 27);
        x.wax(4, 3);
        due("29 is 29", x.speed(0, 4), 29);
    }

    private static void thirtyAtMostBehindAll() {
        HelterSlide x = Check.with("0000060^6000;s20");
        due("30", x.speed(0, 4), 30);
        due("6 more, 6 less for how rough", x.speed(0, 5), 30);
        due("6 more, 6 less for the bump", x.speed(0, 6), 30);
        HelterSlide king = Check.with("0^90^90^40^90^90^90^90^90^90^9;k1");
        due("2, 20 more, 9 less", king.speed(0, 0), 13);
        due("18 more, 9 less", king.speed(0, 1), 22);
        due("8 more, 4 less", king.speed(0, 2), 26);
        due("35 is 30", king.speed(0, 3), 30);
        due("39 is 30", king.speed(0, 4), 30);
        due("30 behind the last is 6", king.ends(0), 6);
    }

    private static HelterSlide stuckOn(String slide, int turn) {
        HelterSlide x = Check.with(slide);
        int rough = x.at(turn, 0);
        int bump = x.at(turn, 1);
        x.hammer(turn, 9);
        x.wax(turn, 9);
        due("rider 1 is stuck", x.ride(1), 10 + turn);
        x.hammer(turn, bump);
        x.wax(turn, rough);
        return x;
    }

    private static void halvedBehindThirtyAtMost() {
        HelterSlide x = stuckOn(SMOOTH + ";s20,p1", 4);
        due("32 is 30 is 15", x.speed(0, 4), 15);
        due("then on as ever", x.speed(0, 5), 21);
    }

    private static void halvedToNothing() {
        HelterSlide x = stuckOn("3000000000;s1,p1", 0);
        due("speed 1 halved is 0", x.ends(0), 10);
        due("so he is stuck", x.ride(0), 10);
        due("the other is at the top", x.of(1, 3), 30);
        due("one on that turn", x.at(0, 2), 0);
        due("not behind it", x.at(0, 0), 3);
    }

    private static void halvedToOne() {
        HelterSlide x = stuckOn("2000000000;s1,p1", 0);
        due("speed 2 halved is 1", x.speed(0, 0), 1);
        due("he comes through", x.ride(0), (1 + 18) % 8);
        due("the other is at the top", x.of(1, 3), 30);
        due("nobody is stuck", x.count(4), 0);
        due("behind it", x.at(0, 0), 1);
    }

    private static void notMoreThanNothingIsNotHalved() {
        for (int rough = 4; rough < 10; rough++) {
            HelterSlide x = stuckOn(rough + "000000000;s1,p1", 0);
            due("stuck", x.ride(0), 10);
            due("the other is at the top", x.of(1, 3), 30);
            due("one on that turn", x.at(0, 2), 0);
        }
    }

    private static void halvedOnTheLastTurn() {
        HelterSlide x = stuckOn(SMOOTH + ";p1<1,c1", 9);
        due("22 halved, and 1", x.ride(0), 12 % 8);
        due("the other is at the top", x.of(1, 3), 30);
    }

    private static HelterSlide oneOnTurn0AndOneOnTurn8() {
        HelterSlide x = Check.with(SMOOTH + ";p1,c1,p1");
        x.hammer(8, 9);
        due("one on turn 8", x.ride(1), 18);
        x.hammer(0, 9);
        due("another on turn 0", x.ride(2), 10);
        x.hammer(0, 0);
        due("both turns", x.count(4), 257);
        return x;
    }

    private static void twoOnTheWay() {
        HelterSlide x = oneOnTurn0AndOneOnTurn8();
        due("4 halved", x.speed(0, 0), 2);
        due("9 halved", x.speed(0, 8), 4);
        due("through", x.ride(0), 6);
        due("both are at the top", x.count(2), 6);
        HelterSlide y = oneOnTurn0AndOneOnTurn8();
        y.wax(8, 9);
        due("stuck where the lower one was", y.ride(0), 18);
        due("both are at the top", y.count(2), 6);
    }

    private static void nobodyBelowIsMoved() {
        HelterSlide x = stuckOn(SMOOTH + ";p1,c1", 7);
        x.wax(3, 9);
        x.hammer(3, 9);
        due("stuck above him", x.ride(0), 13);
        due("he stays", x.of(1, 3), 17);
    }

    private static void nothingIsStuck() {
        due("speed 0", Check.with("4000000000;p1").ride(0), 10);
        due("speed -1", Check.with("5000000000;p1").ride(0), 10);
        due("speed 1", Check.with("3000000000;p1").speed(0, 0), 1);
        due("speed 0 behind the last", Check.with("3222222222;p1").speed(0, 9), 1);
        due("1 at the last is through", Check.with("3222222222;p1").ride(0), 1);
        due("0 at the last is stuck", Check.with("3222222223;p1").ride(0), 19);
    }

    private static void leftOverByEight() {
        int[] ends = {6, 7, 0, 1, 2, 3, 4, 5};
        for (int lean = 0; lean < 8; lean++) {
            due("22 and " + lean, Check.with(SMOOTH + ";p1<" + lean).ride(0), ends[lean]);
        }
        due("1 and 0", Check.with("3222222222;p1").ends(0), 1);
        due("1 and 6", Check.with("3222222222;p1<6").ends(0), 7);
        due("1 and 7", Check.with("3222222222;p1<7").ends(0), 0);
        due("30 and 7", Check.with(SMOOTH + ";s20<7").ends(0), 5);
        due("30 and 2", Check.with(SMOOTH + ";s20<2").ends(0), 0);
    }

    private static void lessRough() {
        HelterSlide x = Check.with("0120911111;p1");
        due("speeds 4, 5, 5, 7, 0", x.ride(0), 14);
        int[] rough = {0, 0, 1, 0, 9, 1, 1, 1, 1, 1};
        for (int t = 0; t < 10; t++) {
            due("rough " + t, x.at(t, 0), rough[t]);
        }
        HelterSlide y = Check.with("0000000009;s20");
        y.ride(0);
        due("the last, too", y.at(9, 0), 8);
        due("0 at least", y.count(5), 8);
        HelterSlide z = Check.with("9111111111;p1");
        z.ride(0);
        due("behind no turn", z.count(5), 18);
    }

    private static void bumpsStay() {
        HelterSlide x = Check.with("0^90^90^90^90^90^90^90^90^90^9;k1");
        x.ride(0);
        due("bumps", x.count(6), 90);
    }

    private static void counted() {
        HelterSlide x = Check.with(SMOOTH + ";p1<2,p1<1,c1,c1");
        x.ride(0);
        x.ride(1);
        due("as 0", x.of(0, 3), 0);
        due("as 7", x.of(1, 3), 7);
        x.hammer(9, 9);
        x.ride(2);
        due("at the top", x.count(2), 8);
        due("through", x.count(3), 3);
        due("turn 9", x.count(4), 512);
        x.hammer(0, 9);
        x.ride(3);
        due("nobody at the top", x.count(2), 0);
        due("turns 0 and 9", x.count(4), 513);
        due("riders", x.count(0), 4);
        due("rides", x.count(1), 4);
        due("bumps", x.count(6), 18);
    }

    private static void countedAtMost() {
        HelterSlide x = Check.with("9^99^99^99^99^99^99^99^99^99^9");
        due("all rough", x.count(5), 90);
        due("all bumps", x.count(6), 90);
        due("no riders", x.count(0), 0);
        due("what -1", x.count(-1), -1);
        due("what 8", x.count(8), -1);
    }

    private static void ridesAreOneMore() {
        HelterSlide x = Check.with("4000000000;p1,s5");
        x.ride(0);
        due("one who is stuck", x.count(1), 1);
        x.ride(1);
        due("one more", x.count(1), 2);
        x.ride(0);
        due("one who was pushed up", x.count(1), 3);
        x.ride(0);
        due("one who may not", x.count(1), 3);
    }

    private static void rideTellsEnds() {
        HelterSlide x = Check.with("1203^214^31152^6;p7<2,s12,c9<5,n20<1,k3<7");
        for (int r = 0; r < 5; r++) {
            int ends = x.ends(r);
            due("ride " + r, x.ride(r), ends);
            due("of " + r, x.of(r, 3), ends);
        }
    }

    private static void notAtTheTop() {
        HelterSlide x = Check.with(SMOOTH + ";p1,p1");
        x.ride(0);
        due("one who is through", x.ride(0), -2);
        x.hammer(0, 9);
        x.ride(1);
        due("one who is stuck", x.ride(1), -2);
        x.up(0);
        due("one who came up", x.ride(0), 10);
    }

    // ---- waxed, hammered, up

    private static void waxed() {
        HelterSlide x = new HelterSlide();
        due("rough -1", x.wax(0, -1), -1);
        due("rough 10", x.wax(0, 10), -1);
        due("far off", x.wax(0, Integer.MIN_VALUE) + x.wax(0, Integer.MAX_VALUE), -2);
        due("rough 9", x.wax(0, 9), 1);
        due("rough 0", x.wax(0, 0), 9);
        due("it is so", x.wax(0, 0), -2);
        due("the last", x.wax(9, 9), 1);
        due("it is so", x.wax(9, 9), -2);
        due("it is so at first", x.wax(5, 1), -2);
        due("all others stay", x.count(5), 17);
        due("bumps stay", x.count(6), 0);
    }

    private static void hammered() {
        HelterSlide x = new HelterSlide();
        due("bump -1", x.hammer(0, -1), -1);
        due("bump 10", x.hammer(0, 10), -1);
        due("far off", x.hammer(0, Integer.MIN_VALUE) + x.hammer(0, Integer.MAX_VALUE), -2);
        due("it is so at first", x.hammer(0, 0), -2);
        due("bump 9", x.hammer(0, 9), 0);
        due("it is so", x.hammer(0, 9), -2);
        due("bump 0", x.hammer(0, 0), 9);
        due("the last", x.hammer(9, 1), 0);
        due("all others stay", x.count(6), 1);
        due("how rough stays", x.count(5), 10);
    }

    private static void upAgain() {
        HelterSlide x = Check.with(SMOOTH + ";p1<2,p1,p1");
        due("at the top", x.up(0), -2);
        due("as 0", x.ride(0), 0);
        due("through as 0", x.up(0), 0);
        due("at the top again", x.up(0), -2);
        x.wax(0, 9);
        x.ride(1);
        due("stuck on turn 0", x.up(1), 10);
        x.wax(0, 0);
        x.wax(9, 9);
        x.hammer(9, 9);
        x.hammer(8, 9);
        x.ride(1);
        due("stuck on turn 9", x.up(1), 19);
        due("nobody is stuck", x.count(4), 0);
        due("all are at the top", x.count(2), 7);
        due("no rides by that", x.count(1), 3);
        due("how rough all is stays", x.count(5), 9);
    }

    public static void main(String[] args) {
        CHECK.sentence("each is ROUGH by 0 .. 9 (1 at first)", RideEdgesTest::roughAtFirst);
        CHECK.sentence("has a BUMP of 0 .. 9 (0 at first)", RideEdgesTest::bumpAtFirst);
        CHECK.sentence("they are at the TOP (at first)", RideEdgesTest::topAtFirst);
        CHECK.sentence("RIDES are counted (0 at first)", RideEdgesTest::ridesAtFirst);
        CHECK.sentence("THE DRAW is a number of 31 bits (1 at first)", RideEdgesTest::drawAtFirst);
        CHECK.sentence("A slide, nobody.", RideEdgesTest::nobodyAtFirst);
        CHECK.sentence("A slide, nobody: a new one", RideEdgesTest::oneObjectIsNotAnother);
        CHECK.sentence("FULL: 5", RideEdgesTest::fiveRiders);
        CHECK.sentence("FULL: 5, of a SLIDE told", RideEdgesTest::fiveRidersOfASlide);
        CHECK.sentence("of a KIND, 0 .. 4", RideEdgesTest::kinds);
        CHECK.sentence("HEAVY by 1 .. 20", RideEdgesTest::heavies);
        CHECK.sentence("LEAN by 0 .. 7", RideEdgesTest::leans);
        CHECK.sentence("LEAN of one becomes v", RideEdgesTest::leanBecomes);
        CHECK.sentence("LEAN of one becomes v, where he is", RideEdgesTest::leanOfOneWhoIsThroughOrStuck);
        CHECK.sentence("0 PLAIN: 2", RideEdgesTest::plainGains);
        CHECK.sentence("1 STOUT: as PLAIN; and HEAVY by 5", RideEdgesTest::stoutGainsByFives);
        CHECK.sentence("2 less, if SPEED ahead of it is 6 or more", RideEdgesTest::clerkGainsBelowSix);
        CHECK.sentence("2 less, if SPEED ahead of it is 6 or more, in a ride", RideEdgesTest::clerkGainsBySpeedAhead);
        CHECK.sentence("as STOUT on TURNS of an even number, else half of that", RideEdgesTest::standerGainsOnEvenTurns);
        CHECK.sentence("as CLERK; and the BUMP of that TURN twice", RideEdgesTest::kingGainsTheBumpTwice);
        CHECK.sentence("a SPEED (0 .. 30) ahead of it", RideEdgesTest::gainsBySpeed);
        CHECK.sentence("begins with SPEED 2, on TURN 0", RideEdgesTest::beginsWithTwo);
        CHECK.sentence("(30 at most)", RideEdgesTest::thirtyAtMost);
        CHECK.sentence("less by how ROUGH it is, and less by its BUMP (30 at most)", RideEdgesTest::thirtyAtMostBehindAll);
        CHECK.sentence("(30 at most). If somebody is STUCK there", RideEdgesTest::halvedBehindThirtyAtMost);
        CHECK.sentence("what is above 0 of SPEED is halved: to 0", RideEdgesTest::halvedToNothing);
        CHECK.sentence("what is above 0 of SPEED is halved: to 1", RideEdgesTest::halvedToOne);
        CHECK.sentence("what is above 0 of SPEED is halved: at the last", RideEdgesTest::halvedOnTheLastTurn);
        CHECK.sentence("If somebody is STUCK there, he is at the TOP again then (no two on one)",
                RideEdgesTest::notMoreThanNothingIsNotHalved);
        CHECK.sentence("If somebody is STUCK there: on each TURN", RideEdgesTest::twoOnTheWay);
        CHECK.sentence("If somebody is STUCK there: not below", RideEdgesTest::nobodyBelowIsMoved);
        CHECK.sentence("If SPEED is 0 or less, one is STUCK there, and the RIDE is done", RideEdgesTest::nothingIsStuck);
        CHECK.sentence("as SPEED and LEAN together, left over by 8", RideEdgesTest::leftOverByEight);
        CHECK.sentence("each TURN behind which one came so is 1 less ROUGH (0 at least)", RideEdgesTest::lessRough);
        CHECK.sentence("each TURN is 1 less ROUGH: no BUMP", RideEdgesTest::bumpsStay);
        CHECK.sentence("2 who is at the TOP (a set), 3 who is THROUGH (a set), 4 TURNS on which somebody is STUCK (a set)",
                RideEdgesTest::counted);
        CHECK.sentence("5 how ROUGH all is together, 6 all BUMPS together", RideEdgesTest::countedAtMost);
        CHECK.sentence("RIDES are one more", RideEdgesTest::ridesAreOneMore);
        CHECK.sentence("A RIDE: what ENDS tells", RideEdgesTest::rideTellsEnds);
        CHECK.sentence("NOT: he is not at the TOP", RideEdgesTest::notAtTheTop);
        CHECK.sentence("WAXED: how ROUGH it was. BAD; NOT: it is so.", RideEdgesTest::waxed);
        CHECK.sentence("HAMMERED: the BUMP it had. BAD; NOT: it is so.", RideEdgesTest::hammered);
        CHECK.sentence("UP: where he was (as told by of()). BAD; NOT: he is at the TOP.", RideEdgesTest::upAgain);
        CHECK.end("edges of turns, riders and rides");
    }
}
