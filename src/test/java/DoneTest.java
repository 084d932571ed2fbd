/** Promises 10 to 16: what is done, and undone. */
public final class DoneTest {
    private static final Check CHECK = new Check();

    private static void due(String call, long got, long want) {
        CHECK.due(call, got, want);
    }

    private static void promise10Ride() {
        HelterSlide x = Check.with("1111111111;p1,s20<3,p1");
        due("10 plain", x.ride(0), 4);
        due("10 where", x.of(0, 3), 4);
        due("10 all turns less rough", x.count(5), 0);
        due("10 rides", x.count(1), 1);
        due("10 not at the top", x.ride(0), -2);
        due("10 speed is 30 at most", x.ride(1), 1);
        due("10 rough is 0 at least", x.count(5), 0);
        due("10 rider 3", x.ride(3), -1);
        due("10 rider -1", x.ride(-1), -1);
        due("10 rides again", x.count(1), 2);
        due("10 to be undone", x.count(7), 2);
    }

    private static void promise10Stuck() {
        HelterSlide x = Check.with("4000000000;p1,p1");
        due("10 speed 0", x.ride(0), 10);
        due("10 not behind that turn", x.at(0, 0), 4);
        x.wax(0, 3);
        due("10 speed 1 halved is 0", x.ride(1), 10);
        due("10 the other is at the top", x.of(0, 3), 30);
        due("10 this one has his turn", x.at(0, 2), 1);
        due("10 none came behind it", x.at(0, 0), 3);
        x.wax(0, 0);
        due("10 speed 4 halved is 2", x.ride(0), 4);
        due("10 pushed up", x.of(1, 3), 30);
        due("10 nobody stuck", x.count(4), 0);
        HelterSlide y = Check.with("1111911111;p1");
        due("10 stuck on the fifth", y.ride(0), 14);
        due("10 four less rough", y.count(5), 14);
        due("10 the fifth is as it was", y.at(4, 0), 9);
        due("10 the sixth is as it was", y.at(5, 0), 1);
        HelterSlide z = Check.with("00^500000000;k1");
        due("10 a king gains by bumps", z.ride(0), 3);
    }

    /** An object is good for 512 calls, so most rides come by draws, and rides are asked for only near the end. */
    private static void promises10And14Full() {
        HelterSlide x = Check.with("9999999999;p1,p1,p1,p1,p1");
        int calls = 26;
        for (int i = 0; i < 290; i++) {
            x.drift(40);
            calls++;
        }
        int rides = x.count(1);
        while (rides < 9999 && calls < 470) {
            due("14 one more than may be", rides + 40 < 9999 ? -3 : x.drift(9999 - rides + 1), -3);
            x.drift(Math.min(40, 9999 - rides));
            rides = x.count(1);
            calls += 3;
        }
        due("10 rides", rides, 9999);
        int notAtTop = Integer.numberOfTrailingZeros(~x.count(2));
        due("10 one is stuck", notAtTop < 5 ? 1 : 0, 1);
        due("10 full", x.ride(notAtTop == 0 ? 1 : 0), -3);
        due("10 FULL ahead of NOT", x.ride(notAtTop), -3);
        due("10 BAD ahead of FULL", x.ride(5), -1);
        due("14 full", x.drift(1), -3);
        due("14 BAD ahead of FULL", x.drift(41), -1);
        due("14 refused, nothing changed", x.count(1), 9999);
        due("25 an order is foretold still", x.order(-1), 0);
        due("13 up goes on", x.up(notAtTop), 10);
        due("15 undone", x.undo(), 7);
        due("15 undone", x.undo(), 6);
        due("calls are not too many", calls + 14 <= 512 ? 1 : 0, 1);
    }

    private static void promise11Wax() {
        HelterSlide x = new HelterSlide();
        due("11 was", x.wax(9, 9), 1);
        due("11 was again", x.wax(9, 0), 9);
        due("11 told", x.at(9, 0), 0);
        due("11 it is so", x.wax(9, 0), -2);
        due("11 turn 10", x.wax(10, 0), -1);
        due("11 turn -1", x.wax(-1, 0), -1);
        due("11 rough 10", x.wax(0, 10), -1);
        due("11 rough -1", x.wax(0, -1), -1);
        due("11 others stay", x.count(5), 9);
        due("11 to be undone", x.count(7), 2);
        due("11 rides stay", x.count(1), 0);
    }

    private static void promise12Hammer() {
        HelterSlide x = new HelterSlide();
        due("12 had", x.hammer(9, 9), 0);
        due("12 had again", x.hammer(9, 4), 9);
        due("12 told", x.at(9, 1), 4);
        due("12 it is so", x.hammer(9, 4), -2);
        due("12 it is so", x.hammer(0, 0), -2);
        due("12 turn 10", x.hammer(10, 1), -1);
        due("12 turn -1", x.hammer(-1, 1), -1);
        due("12 bump 10", x.hammer(0, 10), -1);
        due("12 bump -1", x.hammer(0, -1), -1);
        due("12 others stay", x.count(6), 4);
        due("12 to be undone", x.count(7), 2);
    }

    private static void promise13Up() {
        HelterSlide x = Check.with("1111911111;p1,s20");
        x.ride(0);
        x.ride(1);
        x.hammer(4, 9);
        due("13 he was pushed up", x.up(0), -2);
        x.ride(0);
        int through = x.of(1, 3);
        due("13 stuck", x.up(0), 14);
        due("13 at the top", x.of(0, 3), 30);
        due("13 nobody is stuck", x.at(4, 2), -4);
        due("13 through", x.up(1), through);
        due("13 at the top, both", x.count(2), 3);
        due("13 again", x.up(1), -2);
        due("13 rider 2", x.up(2), -1);
        due("13 rider -1", x.up(-1), -1);
        due("13 rides stay", x.count(1), 3);
        due("13 to be undone", x.count(7), 6);
    }

    private static void promise14Drift() {
        HelterSlide x = new HelterSlide();
        due("14 without riders", x.drift(3), 0);
        due("14 turn 9 twice", x.at(9, 0), 3);
        due("14 turn 3", x.at(3, 0), 2);
        due("14 no more", x.count(5), 13);
        due("14 no rides", x.count(1), 0);
        due("14 the draw", x.seed(1), 662824084);
        HelterSlide y = Check.with("1111111111;p1,p1,p1,p1,p1");
        due("14 three times", y.drift(3), 8);
        due("14 two rides and one up", y.count(1), 2);
        due("14 rider 3", y.of(3, 3), 4);
        due("14 turn 9", y.at(9, 0), 1);
        due("14 turn 3", y.at(3, 0), 1);
        due("14 all", y.count(5), 2);
        due("14 each may be undone", y.undo(), 2);
        due("14 up again", y.of(3, 3), 30);
        due("14 turn 9 ahead of it", y.at(9, 0), 2);
        due("14 the draw ahead of it", y.seed(377401575), 377401575);
        due("14 the same again", y.drift(1), 8);
        due("14 the same draw", y.seed(0), 662824084);
        HelterSlide z = Check.with("1119111119;p1");
        z.drift(40);
        due("14 9 at most", z.at(9, 0) <= 9 && z.at(3, 0) <= 9 ? 1 : 0, 1);
        due("14 eight are known", z.count(7), 8);
        due("14 0", z.drift(0), -1);
        due("14 41", z.drift(41), -1);
        due("14 -1", z.drift(-1), -1);
        HelterSlide nine = Check.with("9999999999");
        due("14 9 stays", nine.drift(40), 0);
        due("14 9 stays", nine.count(5), 90);
    }

    private static void promise15Undo() {
        HelterSlide x = Check.with("4000000000;p1,s20<2");
        due("15 none", x.undo(), -4);
        x.ride(0);
        x.hammer(5, 3);
        x.seed(99);
        x.ride(1);
        due("15 through", x.of(1, 3) < 8 ? 1 : 0, 1);
        due("15 pushed up", x.of(0, 3), 30);
        x.lean(1, 5);
        x.seed(1234);
        due("15 the ride", x.undo(), 2);
        due("15 at the top", x.of(1, 3), 30);
        due("15 stuck again", x.of(0, 3), 10);
        due("15 rough", x.at(0, 0), 4);
        due("15 rides", x.count(1), 1);
        due("15 the draw as ahead of it", x.seed(7), 99);
        due("15 a lean stays as told since", x.of(1, 2), 5);
        due("15 the hammer", x.undo(), 1);
        due("15 bump", x.at(5, 1), 0);
        due("15 the draw ahead of the hammer", x.seed(8), 1);
        due("15 the first", x.undo(), 0);
        due("15 all at the top", x.count(2), 3);
        due("15 rides 0", x.count(1), 0);
        due("15 none", x.undo(), -4);
        due("15 NONE changes nothing", x.seed(8), 1);
    }

    private static void promise15Eight() {
        HelterSlide x = Check.with("0000000000;p1");
        for (int v = 1; v <= 9; v++) {
            x.wax(0, v);
        }
        x.wax(1, 5);
        due("15 eight", x.count(7), 8);
        for (int left = 7; left >= 0; left--) {
            due("15 left", x.undo(), left);
        }
        due("15 older ones are lost", x.at(0, 0), 2);
        due("15 none", x.undo(), -4);
        x.ride(0);
        x.up(0);
        due("15 up", x.undo(), 1);
        due("15 through again", x.of(0, 3) < 8 ? 1 : 0, 1);
        x.rider(1, 1, 1);
        due("15 a new rider", x.undo(), -4);
        x.wax(9, 9);
        Check.told(x, "1111111111");
        due("15 a slide told", x.undo(), -4);
    }

    private static void promise16Seed() {
        HelterSlide x = new HelterSlide();
        due("16 1 at first", x.seed(0), 1);
        due("16 0", x.seed(2147483647), 0);
        due("16 the greatest", x.seed(-1), -1);
        due("16 BAD changes nothing", x.seed(1), 2147483647);
        x.drift(1);
        due("16 drawn", x.seed(2147483647), 1103527590);
        x.drift(1);
        due("16 lowest 31 bits", x.seed(0), (2147483647L * 1103515245L + 12345L) & 2147483647L);
        x.drift(1);
        due("16 from 0", x.seed(5), 12345);
        due("16 nothing to be undone by it", x.count(7), 3);
    }

    public static void main(String[] args) {
        promise10Ride();
        promise10Stuck();
        promises10And14Full();
        promise11Wax();
        promise12Hammer();
        promise13Up();
        promise14Drift();
        promise15Undo();
        promise15Eight();
        promise16Seed();
        CHECK.end("promises 10 to 16");
    }
}
