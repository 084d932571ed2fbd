/** Drifts, what is undone, the draw, images: each sentence that names an edge by itself. */
public final class DoneEdgesTest {
    private static final Check CHECK = new Check();
    private static final String SMOOTH = "0000000000";
    private static final int GREATEST = Integer.MAX_VALUE;

    private static void due(String call, long got, long want) {
        CHECK.due(call, got, want);
    }

    // ---- rides at most

    /** The next draw, as the document tells it, worked out with remainders in place of masks. */
    private static long drawBehind(long draw) {
        return (draw * 1103515245L + 12345L) % 2147483648L;
    }

    /** Nobody comes behind turn 0: one is stuck there, all others are at the top, so most draws make a ride. */
    private static final class Counted {
        final HelterSlide x = Check.with("9999999999;p1,p1,p1,p1,p1");
        int calls = 27;

        /** Rides are as many as asked for then; few calls are left of the 512. */
        void untilRides(int want) {
            int rides = 0;
            while (rides < want && calls < 480) {
                x.drift(Math.min(40, want - rides));
                rides = x.count(1);
                calls += 2;
            }
            due("rides", rides, want);
        }

        /** Far from the end no answer is looked at, to save calls. */
        void far() {
            for (int i = 0; i < 290; i++) {
                x.drift(40);
                calls++;
            }
        }

        int whoIsStuck() {
            calls++;
            return x.at(0, 2);
        }

        void end() {
            due("no more than 512 calls", calls <= 500 ? 1 : 0, 1);
        }
    }

    private static void ridesAreFull() {
        Counted c = new Counted();
        c.far();
        c.untilRides(9998);
        int stuck = c.whoIsStuck();
        int top = stuck == 0 ? 1 : 0;
        due("one more by NOT", c.x.ride(stuck), -2);
        due("one more", c.x.ride(top), 10);
        due("9999", c.x.count(1), 9999);
        due("no more", c.x.ride(stuck), -3);
        due("FULL ahead of NOT", c.x.ride(top), -3);
        due("BAD ahead of FULL", c.x.ride(5), -1);
        due("9999", c.x.count(1), 9999);
        due("undone", c.x.undo(), 7);
        due("9998", c.x.count(1), 9998);
        due("one more again", c.x.ride(top), 10);
        for (int t = 0; t < 10; t++) {
            c.x.wax(t, 0);
        }
        due("foretold for all that", c.x.ends(top), 6);
        due("in order, all but the one who is stuck", c.x.order(-1), 4);
        c.calls += 22;
        c.end();
    }

    private static void ridesMightBeAbove() {
        Counted c = new Counted();
        c.far();
        c.untilRides(9960);
        due("40 more might be above", c.x.drift(40), -3);
        due("41 are BAD", c.x.drift(41), -1);
        due("refused, none rode", c.x.count(1), 9960);
        due("39 more are 9999 at most", c.x.drift(39), 0);
        int rides = c.x.count(1);
        due("some came up instead", rides < 9999 ? 1 : 0, 1);
        due("one more than may be", c.x.drift(9999 - rides + 1), -3);
        c.calls += 6;
        c.untilRides(9999);
        due("not one", c.x.drift(1), -3);
        due("BAD ahead of FULL", c.x.drift(0), -1);
        c.calls += 2;
        c.end();
    }

    // ---- the draw

    private static void drawOf31Bits() {
        HelterSlide x = new HelterSlide();
        due("below 0", x.seed(-1), -1);
        due("far below 0", x.seed(Integer.MIN_VALUE), -1);
        due("0", x.seed(0), 1);
        due("the greatest", x.seed(GREATEST), 0);
        due("the greatest is told", x.seed(3), GREATEST);
    }

    private static void drawBecomes() {
        HelterSlide x = new HelterSlide();
        long[] draws = {1, 0, GREATEST, 2147483646L, 1073741824L, 12345, 987654321L};
        for (long draw : draws) {
            x.seed((int) draw);
            x.drift(1);
            due("behind " + draw, x.seed(0), drawBehind(draw));
        }
        x.seed(1);
        x.drift(40);
        long draw = 1;
        for (int i = 0; i < 40; i++) {
            draw = drawBehind(draw);
        }
        due("40 times", x.seed(0), draw);
    }

    private static int seedBehindWhich(int by, int mod, int left) {
        for (int seed = 0; seed < 100000; seed++) {
            if (drawBehind(seed) / by % mod == left) {
                return seed;
            }
        }
        return -1;
    }

    private static void riderOfTheDraw() {
        for (int riders = 1; riders <= 5; riders++) {
            for (int r = 0; r < riders; r++) {
                HelterSlide x = Check.with(SMOOTH + ";p1,p1,p1,p1,p1".substring(0, 3 * riders));
                x.seed(seedBehindWhich(65536, riders, r));
                due("rider " + r + " of " + riders, x.drift(1), 1 << r);
                due("one ride", x.count(1), 1);
            }
        }
    }

    private static void turnOfTheDraw() {
        for (int t = 0; t < 10; t++) {
            HelterSlide x = new HelterSlide();
            x.seed(seedBehindWhich(128, 10, t));
            x.drift(1);
            due("turn " + t, x.at(t, 0), 2);
            due("no other", x.count(5), 11);
        }
    }

    private static void ridesOrComesUp() {
        HelterSlide x = Check.with(SMOOTH + ";p1");
        due("rides", x.drift(1), 1);
        due("a ride", x.count(1), 1);
        due("comes up", x.drift(1), 0);
        due("at the top", x.of(0, 3), 30);
        due("no ride", x.count(1), 1);
        HelterSlide y = Check.with("4000000000;p1");
        y.ride(0);
        due("one who is stuck comes up", y.drift(1), 0);
        due("at the top", y.of(0, 3), 30);
        due("no ride", y.count(1), 1);
    }

    private static void whoIsThroughThen() {
        HelterSlide x = Check.with(SMOOTH + ";p1,p1,p1");
        x.ride(1);
        x.seed(seedBehindWhich(65536, 3, 0));
        due("he, and the one who was ahead of it", x.drift(1), 3);
        x.seed(seedBehindWhich(65536, 3, 1));
        due("not the one who comes up", x.drift(1), 1);
        x.hammer(0, 9);
        x.seed(seedBehindWhich(65536, 3, 2));
        due("not the one who is stuck", x.drift(1), 1);
    }

    private static void roughBehindTheRide() {
        HelterSlide x = Check.with(SMOOTH + ";p1");
        x.drift(1);
        due("smooth for the ride, rough then", x.count(5), 1);
        due("as on a smooth one", x.of(0, 3), 6);
    }

    private static void nineAtMost() {
        HelterSlide x = Check.with("9999999998");
        int seed = seedBehindWhich(128, 10, 9);
        x.seed(seed);
        x.drift(1);
        due("9", x.at(9, 0), 9);
        x.seed(seed);
        x.drift(1);
        due("9 at most", x.at(9, 0), 9);
        due("9 at most all", x.count(5), 90);
        due("it may be undone", x.count(7), 2);
    }

    private static void withoutRiders() {
        HelterSlide x = new HelterSlide();
        due("nobody is through", x.drift(7), 0);
        due("7 more rough", x.count(5), 17);
        due("no rides", x.count(1), 0);
        due("seven may be undone", x.undo(), 6);
        due("6 more rough", x.count(5), 16);
    }

    private static void oneToForty() {
        HelterSlide x = new HelterSlide();
        due("0", x.drift(0), -1);
        due("-1", x.drift(-1), -1);
        due("41", x.drift(41), -1);
        due("far off", x.drift(Integer.MIN_VALUE) + x.drift(GREATEST), -2);
        due("refused, the draw stays", x.seed(1), 1);
        due("1", x.drift(1), 0);
        due("once", x.count(5), 11);
        long draw = 1;
        for (int i = 0; i < 41; i++) {
            draw = drawBehind(draw);
        }
        due("40", x.drift(40), 0);
        due("41 times together", x.seed(1), draw);
    }

    private static void eachByItself() {
        HelterSlide x = new HelterSlide();
        x.drift(1);
        due("one", x.count(7), 1);
        x.drift(3);
        due("four", x.count(7), 4);
        x.drift(4);
        due("eight", x.count(7), 8);
        x.drift(2);
        due("eight are known", x.count(7), 8);
        for (int left = 7; left >= 0; left--) {
            due("undone", x.undo(), left);
            due("one by one", x.count(5), 12 + left);
        }
        due("none", x.undo(), -4);
    }

    // ---- undone

    private static void eightAreKnown() {
        HelterSlide x = new HelterSlide();
        for (int t = 0; t < 8; t++) {
            x.wax(t, 9);
            due("known", x.count(7), t + 1);
        }
        x.wax(8, 9);
        due("eight", x.count(7), 8);
        for (int left = 7; left >= 0; left--) {
            due("more", x.undo(), left);
            due("known", x.count(7), left);
            due("the latest first", x.at(left + 1, 0), 1);
        }
        due("the first is lost", x.at(0, 0), 9);
        due("none is known", x.undo(), -4);
    }

    private static void noneIsKnown() {
        HelterSlide x = new HelterSlide();
        due("at first", x.undo(), -4);
        x.hammer(0, 1);
        due("one", x.undo(), 0);
        due("no more", x.undo(), -4);
        due("no more again", x.undo(), -4);
        due("bump", x.at(0, 1), 0);
    }

    private static void onBehindWhatIsUndone() {
        HelterSlide x = new HelterSlide();
        x.wax(0, 2);
        x.wax(0, 3);
        x.undo();
        x.wax(0, 4);
        due("two", x.undo(), 1);
        due("2 again", x.at(0, 0), 2);
        due("one", x.undo(), 0);
        due("1 again", x.at(0, 0), 1);
    }

    private static HelterSlide withThreeKnown() {
        HelterSlide x = Check.with(SMOOTH + ";p1");
        x.ride(0);
        x.up(0);
        x.wax(0, 1);
        due("three are known", x.count(7), 3);
        return x;
    }

    private static void newRiderLeavesNothing() {
        HelterSlide x = withThreeKnown();
        due("refused", x.rider(0, 21, 0), -1);
        due("then they are known still", x.count(7), 3);
        due("a new rider", x.rider(0, 1, 0), 1);
        due("none", x.count(7), 0);
        due("none", x.undo(), -4);
        due("rough", x.at(0, 0), 1);
    }

    private static void slideToldLeavesNothing() {
        HelterSlide x = withThreeKnown();
        due("a fault", Check.told(x, "1"), -21);
        due("then they are known still", x.count(7), 3);
        due("a slide", Check.told(x, SMOOTH), 0);
        due("none", x.count(7), 0);
        due("none", x.undo(), -4);
    }

    private static void notToBeUndone() {
        HelterSlide x = withThreeKnown();
        x.lean(0, 1);
        x.seed(4);
        x.type('1');
        x.slide();
        x.image();
        x.sheet(0, 0, 12);
        x.film(0, 10, 0, 0, 0);
        x.item(0, 0, 0, 1);
        x.copy(0, 0, 0, 1, 2);
        x.drop(0);
        x.order(-1);
        due("refused", x.wax(0, 1), -2);
        due("refused", x.up(0), -2);
        due("three are known still", x.count(7), 3);
    }

    private static void rideUndone() {
        HelterSlide x = Check.with("3111111111;p1,s5");
        x.hammer(0, 9);
        x.ride(0);
        x.hammer(0, 0);
        x.ride(1);
        due("less rough", x.count(5), 2);
        due("the other was pushed up", x.of(0, 3), 30);
        due("two rides", x.count(1), 2);
        due("undone", x.undo(), 3);
        due("as rough", x.count(5), 12);
        due("rough 3", x.at(0, 0), 3);
        due("stuck again", x.of(0, 3), 10);
        due("at the top", x.of(1, 3), 30);
        due("one ride", x.count(1), 1);
    }

    private static void othersUndone() {
        HelterSlide x = Check.with(SMOOTH + ";p1");
        x.wax(3, 7);
        x.hammer(4, 6);
        x.ride(0);
        int end = x.of(0, 3);
        x.up(0);
        due("up", x.undo(), 3);
        due("where he was", x.of(0, 3), end);
        due("the ride", x.undo(), 2);
        due("hammered", x.undo(), 1);
        due("bump", x.count(6), 0);
        due("waxed", x.undo(), 0);
        due("rough", x.count(5), 0);
    }

    private static void drawAsAhead() {
        HelterSlide x = new HelterSlide();
        x.seed(50);
        x.wax(0, 5);
        x.seed(60);
        x.drift(1);
        x.seed(70);
        due("the drift", x.undo(), 1);
        due("as ahead of the drift", x.seed(80), 60);
        due("the wax", x.undo(), 0);
        due("as ahead of the wax", x.seed(0), 50);
    }

    private static void leanAsToldSince() {
        HelterSlide x = Check.with(SMOOTH + ";p1<3");
        x.ride(0);
        x.lean(0, 6);
        x.undo();
        due("lean is not among it", x.of(0, 2), 6);
    }

    private static void undoneMayNotBe() {
        HelterSlide x = new HelterSlide();
        x.wax(0, 5);
        x.undo();
        due("what is undone is not known", x.count(7), 0);
        due("none", x.undo(), -4);
        due("rough", x.at(0, 0), 1);
    }

    // ---- images

    private static void noImage() {
        HelterSlide x = new HelterSlide();
        due("none", x.restore(), -4);
        due("one", x.image(), 1);
        due("restored", x.restore(), 1);
        due("restored again", x.restore(), 1);
    }

    private static void imageOfAll() {
        HelterSlide x = Check.with("1203456789;k3<2,p1");
        x.seed(33);
        x.hammer(9, 1);
        x.ride(0);
        int where = x.of(0, 3);
        int rough = x.count(5);
        x.image();
        Check.told(x, SMOOTH + "^9;n9,c9,s9");
        x.seed(44);
        due("restored", x.restore(), 1);
        due("riders", x.count(0), 2);
        due("rides", x.count(1), 1);
        due("where", x.of(0, 3), where);
        due("kind", x.of(0, 0), 4);
        due("heavy", x.of(0, 1), 3);
        due("lean", x.of(0, 2), 2);
        due("rough", x.count(5), rough);
        due("bumps", x.count(6), 1);
        due("to be undone", x.count(7), 2);
        due("the draw", x.seed(1), 33);
        due("no third", x.of(2, 0), -1);
        due("no third at the top", x.count(2) & 4, 0);
        due("no third rides", x.order(2), -4);
    }

    private static void imageOfWhatMayBeUndone() {
        HelterSlide x = new HelterSlide();
        for (int v = 2; v <= 9; v++) {
            x.wax(0, v);
        }
        x.wax(1, 2);
        x.image();
        for (int v = 2; v <= 9; v++) {
            x.hammer(2, v);
        }
        x.undo();
        due("restored", x.restore(), 1);
        for (int left = 7; left >= 0; left--) {
            due("more", x.undo(), left);
            due("how rough", x.at(0, 0), left == 7 ? 9 : left + 2);
        }
        due("the image has its own", x.restore(), 1);
        due("eight again", x.count(7), 8);
        due("and is not what goes on", x.undo() + x.wax(3, 9) + x.restore() + x.at(3, 0), 7 + 1 + 1 + 1);
    }

    private static void sheetsAndTapeAreNotOfIt() {
        HelterSlide x = Check.with(SMOOTH + ";p1");
        x.sheet(0, 0, 3);
        x.type('1');
        x.image();
        x.drop(0);
        x.sheet(1, 1, 4);
        x.type('2');
        x.restore();
        due("sheet 0 is nothing", x.drop(0), -11);
        due("sheet 1 is a row", x.drop(1), 4);
        due("the tape has two", x.type('3'), 3);
    }

    private static void slideToldLetsTheImageBe() {
        HelterSlide x = Check.with(SMOOTH + ";p1,p1");
        x.image();
        Check.told(x, SMOOTH);
        due("restored", x.restore(), 1);
        due("riders", x.count(0), 2);
    }

    private static void laterImage() {
        HelterSlide x = new HelterSlide();
        x.image();
        x.wax(0, 9);
        due("a later one", x.image(), 1);
        x.wax(0, 8);
        due("restored", x.restore(), 1);
        due("the later one", x.at(0, 0), 9);
    }

    public static void main(String[] args) {
        CHECK.sentence("FULL (ahead of NOT): RIDES are 9999", DoneEdgesTest::ridesAreFull);
        CHECK.sentence("FULL: RIDES might be above 9999", DoneEdgesTest::ridesMightBeAbove);
        CHECK.sentence("THE DRAW becomes v: what it was. BAD: below 0.", DoneEdgesTest::drawOf31Bits);
        CHECK.sentence("it becomes the lowest 31 bits of itself times 1103515245 and 12345 more",
                DoneEdgesTest::drawBecomes);
        CHECK.sentence("the RIDER that it is by 65536, left over by how many there are", DoneEdgesTest::riderOfTheDraw);
        CHECK.sentence("rides, if he is at the TOP, else he comes UP", DoneEdgesTest::ridesOrComesUp);
        CHECK.sentence("the TURN that it is by 128, left over by 10, is 1 more ROUGH then", DoneEdgesTest::turnOfTheDraw);
        CHECK.sentence("A DRIFT: who is THROUGH then (a set)", DoneEdgesTest::whoIsThroughThen);
        CHECK.sentence("is 1 more ROUGH then: behind the RIDE", DoneEdgesTest::roughBehindTheRide);
        CHECK.sentence("(9 at most", DoneEdgesTest::nineAtMost);
        CHECK.sentence("that also without RIDERS)", DoneEdgesTest::withoutRiders);
        CHECK.sentence("A DRIFT of n times (1 .. 40", DoneEdgesTest::oneToForty);
        CHECK.sentence("each by itself may be UNDONE)", DoneEdgesTest::eachByItself);
        CHECK.sentence("(8 are known, older ones lost)", DoneEdgesTest::eightAreKnown);
        CHECK.sentence("UNDONE: how many more may be. NONE: none is known.", DoneEdgesTest::noneIsKnown);
        CHECK.sentence("the latest", DoneEdgesTest::onBehindWhatIsUndone);
        CHECK.sentence("a new RIDER leave nothing to be UNDONE", DoneEdgesTest::newRiderLeavesNothing);
        CHECK.sentence("a SLIDE told leave nothing to be UNDONE", DoneEdgesTest::slideToldLeavesNothing);
        CHECK.sentence("the latest RIDE, WAXED, HAMMERED, UP, time of a DRIFT: nothing else", DoneEdgesTest::notToBeUndone);
        CHECK.sentence("where RIDERS are, how ROUGH all is, RIDES are as ahead of it", DoneEdgesTest::rideUndone);
        CHECK.sentence("how ROUGH all is, BUMPS are as ahead of it", DoneEdgesTest::othersUndone);
        CHECK.sentence("THE DRAW are as ahead of it, whatever was told since", DoneEdgesTest::drawAsAhead);
        CHECK.sentence("are as ahead of it: not LEAN", DoneEdgesTest::leanAsToldSince);
        CHECK.sentence("is as it had not been", DoneEdgesTest::undoneMayNotBe);
        CHECK.sentence("All is as it was then: 1. NONE: there is none.", DoneEdgesTest::noImage);
        CHECK.sentence("All but SHEETS, THE TAPE is kept as an IMAGE", DoneEdgesTest::imageOfAll);
        CHECK.sentence("(what may be UNDONE, too)", DoneEdgesTest::imageOfWhatMayBeUndone);
        CHECK.sentence("but SHEETS, THE TAPE", DoneEdgesTest::sheetsAndTapeAreNotOfIt);
        CHECK.sentence("the IMAGE stays behind a SLIDE told", DoneEdgesTest::slideToldLetsTheImageBe);
        CHECK.sentence("All is as it was then: as kept last", DoneEdgesTest::laterImage);
        CHECK.end("edges of what is done and undone");
    }
}
