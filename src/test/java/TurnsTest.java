/** Promises 1 to 9: turns, riders, the tape and what is counted. */
public final class TurnsTest {
    private static final Check CHECK = new Check();

    private static void due(String call, long got, long want) {
        CHECK.due(call, got, want);
    }

    private static void promise1New() {
        HelterSlide x = new HelterSlide();
        for (int t = 0; t < 10; t++) {
            due("1 new at(t, 0)", x.at(t, 0), 1);
            due("1 new at(t, 1)", x.at(t, 1), 0);
            due("1 new at(t, 2)", x.at(t, 2), -4);
        }
        for (int what = 0; what < 8; what++) {
            due("1 new count " + what, x.count(what), what == 5 ? 10 : 0);
        }
        due("1 new draw", x.seed(1), 1);
        due("1 new image", x.restore(), -4);
        due("1 new of(0, 0)", x.of(0, 0), -1);
        for (int s = 0; s < 4; s++) {
            due("1 new sheet", x.drop(s), -11);
        }
        due("1 new tape", x.type(' '), 1);
    }

    private static void promise2Rider() {
        HelterSlide x = new HelterSlide();
        due("2 kind -1", x.rider(-1, 1, 0), -1);
        due("2 kind 5", x.rider(5, 1, 0), -1);
        due("2 heavy 0", x.rider(0, 0, 0), -1);
        due("2 heavy 21", x.rider(0, 21, 0), -1);
        due("2 lean -1", x.rider(0, 1, -1), -1);
        due("2 lean 8", x.rider(0, 1, 8), -1);
        due("2 none so far", x.count(0), 0);
        for (int r = 0; r < 5; r++) {
            due("2 rider " + r, x.rider(r, r == 4 ? 20 : r + 1, r == 4 ? 7 : r), r);
            due("2 at the top " + r, x.of(r, 3), 30);
        }
        x.wax(0, 5);
        due("2 full", x.rider(0, 1, 0), -3);
        due("2 BAD ahead of FULL", x.rider(0, 0, 0), -1);
        due("2 FULL leaves what may be undone", x.count(7), 1);
        due("2 five", x.count(0), 5);
        due("2 the last's weight", x.of(4, 1), 20);
        due("2 the last's lean", x.of(4, 2), 7);
    }

    private static void promise3Lean() {
        HelterSlide x = Check.with("1111111111;p5<3,k2");
        due("3 was", x.lean(0, 7), 3);
        due("3 was again", x.lean(0, 0), 7);
        due("3 told", x.of(0, 2), 0);
        due("3 the other's stays", x.of(1, 2), 0);
        due("3 lean -1", x.lean(0, -1), -1);
        due("3 lean 8", x.lean(0, 8), -1);
        due("3 rider 2", x.lean(2, 0), -1);
        due("3 rider -1", x.lean(-1, 0), -1);
        due("3 BAD changes nothing", x.of(0, 2), 0);
        due("3 nothing to be undone by it", x.count(7), 0);
    }

    private static void promise4Of() {
        HelterSlide x = Check.with("1111111111;n13<6,p1");
        due("4 kind", x.of(0, 0), 3);
        due("4 heavy", x.of(0, 1), 13);
        due("4 lean", x.of(0, 2), 6);
        due("4 top", x.of(0, 3), 30);
        x.wax(4, 9);
        x.ride(1);
        due("4 stuck", x.of(1, 3), 14);
        x.wax(4, 0);
        x.up(1);
        x.ride(1);
        due("4 through", x.of(1, 3), 1);
        due("4 what 4", x.of(0, 4), -1);
        due("4 what -1", x.of(0, -1), -1);
        due("4 rider 2", x.of(2, 0), -1);
        due("4 rider -1", x.of(-1, 0), -1);
    }

    private static void promise5At() {
        HelterSlide x = Check.with("0123456789^9;p1");
        for (int t = 0; t < 10; t++) {
            due("5 rough " + t, x.at(t, 0), t);
            due("5 bump " + t, x.at(t, 1), t == 9 ? 9 : 0);
        }
        due("5 ride", x.ride(0), 15);
        due("5 who is stuck", x.at(5, 2), 0);
        due("5 nobody is stuck", x.at(4, 2), -4);
        due("5 turn 10", x.at(10, 0), -1);
        due("5 turn -1", x.at(-1, 0), -1);
        due("5 what 3", x.at(0, 3), -1);
        due("5 what -1", x.at(0, -1), -1);
    }

    private static void promise6Gains() {
        HelterSlide x = Check.with("1111^91111^211;p20,s20,c20,n14,k20");
        int[] weights = {20, 20, 20, 14, 20};
        for (int r = 0; r < 5; r++) {
            due("6 heavy", x.of(r, 1), weights[r]);
        }
        due("6 plain", x.gains(0, 3, 30), 2);
        due("6 stout", x.gains(1, 3, 30), 6);
        due("6 clerk at 5", x.gains(2, 3, 5), 2);
        due("6 clerk at 6", x.gains(2, 3, 6), 0);
        due("6 stander, even", x.gains(3, 2, 9), 4);
        due("6 stander, odd", x.gains(3, 3, 9), 2);
        due("6 king, bump 9, slow", x.gains(4, 3, 5), 20);
        due("6 king, bump 9, fast", x.gains(4, 3, 6), 18);
        due("6 king, bump 2", x.gains(4, 7, 0), 6);
        due("6 king, no bump", x.gains(4, 0, 30), 0);
        HelterSlide y = Check.with("1111111111;s4,s5,n9,n1");
        due("6 stout of 4", y.gains(0, 0, 0), 2);
        due("6 stout of 5", y.gains(1, 0, 0), 3);
        due("6 half of three is cut", y.gains(2, 1, 0), 1);
        due("6 half of two", y.gains(3, 9, 0), 1);
        due("6 rider 4", y.gains(4, 0, 0), -1);
        due("6 rider -1", y.gains(-1, 0, 0), -1);
        due("6 turn 10", y.gains(0, 10, 0), -1);
        due("6 turn -1", y.gains(0, -1, 0), -1);
        due("6 speed 31", y.gains(0, 0, 31), -1);
        due("6 speed -1", y.gains(0, 0, -1), -1);
    }

    private static void promise7Type() {
        HelterSlide x = new HelterSlide();
        due("7 31", x.type(31), -1);
        due("7 127", x.type(127), -1);
        due("7 -1", x.type(-1), -1);
        for (int i = 1; i <= 70; i++) {
            due("7 letter " + i, x.type(i % 2 == 0 ? 32 : 126), i);
        }
        due("7 full", x.type(32), -3);
        due("7 BAD ahead of FULL", x.type(127), -1);
        due("7 told", x.slide(), -20);
        due("7 empty then", x.type(32), 1);
        String most = "1^12^23^34^45^56^67^78^89^90^9;p20<7,s20<6,c20<5,n20<4,k20<3          ";
        HelterSlide y = new HelterSlide();
        due("7 a text of 70", most.length(), 70);
        due("7 all of it", Check.told(y, most), 5);
    }

    private static void promise8Slide() {
        HelterSlide x = Check.with("0^1123456789;k20<7");
        x.seed(77);
        x.ride(0);
        x.image();
        x.sheet(2, 3, 4);
        x.hammer(9, 9);
        due("8 a fault", Check.told(x, "1111111111;p5<8"), -34);
        due("8 by a fault, the tape is empty", x.type('1'), 1);
        due("8 by a fault, riders stay", x.of(0, 0), 4);
        due("8 by a fault, turns stay", x.at(0, 1), 1);
        due("8 by a fault, rides stay", x.count(1), 1);
        due("8 by a fault, what may be undone stays", x.count(7), 2);
        due("8 a second fault behind that letter", Check.told(x, "x"), -21);
        due("8 a slide", Check.told(x, "2345678901;s3,p9"), 2);
        due("8 the tape is empty", x.type('1'), 1);
        due("8 rides 0", x.count(1), 0);
        due("8 nothing may be undone", x.count(7), 0);
        due("8 undo", x.undo(), -4);
        due("8 all bumps are new", x.count(6), 0);
        due("8 turn 0", x.at(0, 0), 2);
        due("8 turn 9", x.at(9, 0), 1);
        due("8 the first's lean", x.of(0, 2), 0);
        due("8 all are at the top", x.count(2), 3);
        due("8 the draw stays", x.seed(5), 77);
        due("8 sheets stay", x.drop(2), 4);
        due("8 the image stays", x.restore(), 1);
        due("8 the image's", x.of(0, 0), 4);
        due("8 nobody", Check.told(x, " 1111111111"), -31);
        due("8 nobody", Check.told(x, "1111111111"), 0);
        due("8 nobody is there", x.of(0, 0), -1);
    }

    private static void promise9Count() {
        HelterSlide x = Check.with("1111111110^1;p1,p1,p1<2,p1");
        due("9 rider 0", x.ride(0), 4);
        x.wax(5, 9);
        x.hammer(5, 9);
        due("9 rider 1", x.ride(1), 15);
        x.hammer(2, 9);
        due("9 rider 2", x.ride(2), 12);
        due("9 riders", x.count(0), 4);
        due("9 rides", x.count(1), 3);
        due("9 at the top", x.count(2), 8);
        due("9 through", x.count(3), 1);
        due("9 turns", x.count(4), (1 << 5) + (1 << 2));
        due("9 rough", x.count(5), 9);
        due("9 bumps", x.count(6), 19);
        due("9 what may be undone", x.count(7), 6);
        x.seed(3);
        x.lean(0, 1);
        due("9 told of the draw or a lean: not more", x.count(7), 6);
        due("9 BAD", x.count(8), -1);
        due("9 BAD", x.count(-1), -1);
    }

    public static void main(String[] args) {
        promise1New();
        promise2Rider();
        promise3Lean();
        promise4Of();
        promise5At();
        promise6Gains();
        promise7Type();
        promise8Slide();
        promise9Count();
        CHECK.end("promises 1 to 9");
    }
}
