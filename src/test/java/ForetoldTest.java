/** Promises 17 to 28: what is foretold, and images. */
public final class ForetoldTest {
    private static final Check CHECK = new Check();

    private static void due(String call, long got, long want) {
        CHECK.due(call, got, want);
    }

    private static void promise17Speed() {
        HelterSlide x = Check.with("1111111111;p1,p1,s20");
        for (int t = 0; t < 10; t++) {
            due("17 speed behind " + t, x.speed(0, t), 3 + t);
        }
        due("17 30 at most", x.speed(2, 9), 30);
        x.hammer(4, 9);
        due("17 behind the one above", x.speed(0, 3), 6);
        due("17 not so far", x.speed(0, 4), -4);
        due("17 nor behind", x.speed(0, 9), -4);
        due("17 rider 3", x.speed(3, 0), -1);
        due("17 rider -1", x.speed(-1, 0), -1);
        due("17 turn 10", x.speed(0, 10), -1);
        due("17 turn -1", x.speed(0, -1), -1);
        due("17 nothing is changed", x.count(5) + x.count(1) + x.count(2), 10 + 7);
    }

    private static void promise18Ends() {
        HelterSlide x = Check.with("4000000000;p1,p1<7,s20");
        due("18 stuck", x.ends(0), 10);
        x.ride(0);
        x.wax(0, 0);
        due("18 he is not stuck any more", x.ends(0), 22 % 8);
        due("18 another is halved by him", x.ends(1), (20 + 7) % 8);
        due("18 nothing is changed", x.of(0, 3), 10);
        due("18 nothing is changed", x.at(0, 2), 0);
        due("18 no rides", x.count(1), 1);
        x.up(0);
        x.ride(1);
        due("18 one who is through, as if at the top", x.ends(1), (22 + 7) % 8);
        due("18 rider 3", x.ends(3), -1);
        due("18 rider -1", x.ends(-1), -1);
    }

    private static void promise19Fast() {
        HelterSlide x = Check.with("0000000000;c1,p1");
        due("19 of like ones the first", x.fast(0, 0), 1);
        due("19 how great", x.fast(0, 1), 6);
        due("19 the last", x.fast(1, 0), 9);
        due("19 how great", x.fast(1, 1), 22);
        x.wax(9, 9);
        due("19 one in the middle", x.fast(1, 0), 8);
        due("19 how great", x.fast(1, 1), 20);
        x.wax(0, 4);
        due("19 stuck on turn 0", x.fast(1, 0), -4);
        due("19 stuck on turn 0", x.fast(1, 1), -4);
        due("19 what 2", x.fast(0, 2), -1);
        due("19 what -1", x.fast(0, -1), -1);
        due("19 rider 2", x.fast(2, 0), -1);
        due("19 rider -1", x.fast(-1, 0), -1);
    }

    private static void promise20Who() {
        HelterSlide x = Check.with("1111111111;p1,p1<1,p1,s5");
        due("20 two of them, each alone", x.who(4), 1 + 4);
        due("20 by lean", x.who(5), 2);
        due("20 by weight", x.who(6), 8);
        due("20 nobody", x.who(0), 0);
        due("20 x 8", x.who(8), -1);
        due("20 x -1", x.who(-1), -1);
        x.hammer(0, 9);
        due("20 stuck ones are nothing", x.who(2), 0);
    }

    private static void promise21Waxes() {
        HelterSlide x = Check.with("1111111111;p1");
        int[] told = {25, 14, 3, 2, 100, 0, 47, 36};
        for (int as = 0; as < 8; as++) {
            due("21 as " + as, x.waxes(0, as), told[as]);
        }
        due("21 nothing is changed", x.count(5), 10);
        HelterSlide y = Check.with("9111111111;p1");
        due("21 stuck as it is", y.waxes(0, 4), 1);
        due("21 the last turn", Check.with("0000000009;k1<2").waxes(0, 0), 90);
        HelterSlide z = Check.with("9911111111;p1");
        for (int as = 0; as < 8; as++) {
            due("21 none " + as, z.waxes(0, as), -4);
        }
        due("21 x 8", x.waxes(0, 8), -1);
        due("21 x -1", x.waxes(0, -1), -1);
        due("21 rider 1", x.waxes(1, 0), -1);
        due("21 rider -1", x.waxes(-1, 0), -1);
    }

    private static void promise22May() {
        HelterSlide x = Check.with("1111111111;p1");
        due("22 turn 0", x.may(0, 0), 4 + 8 + 16 + 32);
        due("22 turn 9", x.may(0, 9), 255);
        x.hammer(5, 9);
        due("22 never", x.may(0, 0), 0);
        due("22 nothing is changed", x.count(5), 10);
        due("22 turn 10", x.may(0, 10), -1);
        due("22 turn -1", x.may(0, -1), -1);
        due("22 rider 1", x.may(1, 0), -1);
        due("22 rider -1", x.may(-1, 0), -1);
    }

    private static void promise23Weight() {
        HelterSlide x = Check.with("3333333333;s20,p20");
        due("23 the least", x.weight(0), 5);
        due("23 not by any", x.weight(1), -4);
        due("23 he is as heavy as he was", x.of(0, 1), 20);
        due("23 the least of all", Check.with("1111111111;p20").weight(0), 1);
        due("23 the most of all", Check.with("6666666666;s1").weight(0), 20);
        due("23 above the most", Check.with("7777777777;s1").weight(0), -4);
        due("23 rider 2", x.weight(2), -1);
        due("23 rider -1", x.weight(-1), -1);
    }

    private static void promise24Bump() {
        HelterSlide x = Check.with("1111^91111^911;p1,p1");
        due("24 of like ones the first", x.bump(0), 3);
        due("24 how many", x.bump(1), 2);
        due("24 nothing is changed", x.count(6), 18);
        HelterSlide king = Check.with("9^9000000000;k1");
        due("24 a king would miss it", king.bump(0), 1);
        due("24 how many", king.bump(1), 1);
        HelterSlide none = Check.with("0^90^900000000;p1");
        due("24 not by one", none.bump(1), 0);
        due("24 then turn 0", none.bump(0), 0);
        HelterSlide through = Check.with("000000000^90^9;p1");
        due("24 through with any of them", through.bump(0), 0);
        due("24 how many", through.bump(1), 1);
        HelterSlide last = Check.with("0000000000^9;c1");
        due("24 the last turn", last.bump(0), 9);
        due("24 nobody", new HelterSlide().bump(0), 0);
        due("24 nobody", new HelterSlide().bump(1), 0);
        due("24 what 2", x.bump(2), -1);
        due("24 what -1", x.bump(-1), -1);
    }

    private static void promise25Order() {
        HelterSlide x = Check.with("4000000000;p1,s20");
        due("25 how many", x.order(-1), 2);
        due("25 first", x.order(0), 1);
        due("25 then", x.order(1), 0);
        due("25 not so many", x.order(2), -4);
        due("25 not so many", x.order(2147483647), -4);
        due("25 nothing is changed", x.count(2), 3);
        due("25 nothing is changed", x.count(5), 4);
        due("25 k -2", x.order(-2), -1);
        x.ride(0);
        due("25 who comes up by it does not ride", x.order(-1), 1);
        due("25 the one at the top", x.order(0), 1);
        due("25 and no more", x.order(1), -4);
        HelterSlide y = Check.with("1111111111;p1,p1,p1,p1,p1");
        due("25 five", y.order(-1), 5);
        for (int k = 0; k < 5; k++) {
            due("25 of like ones the first", y.order(k), k);
        }
        y.ride(1);
        due("25 of all who are through then", y.order(-1), 5);
        due("25 rising", y.order(1), 2);
        due("25 four ride", y.order(4), -4);
        HelterSlide last = Check.with("7000000000;p1,s5,s10,s15,s20");
        due("25 only the last of all orders brings all through", last.order(-1), 5);
        for (int k = 0; k < 5; k++) {
            due("25 the heaviest first", last.order(k), 4 - k);
        }
    }

    private static void rain(HelterSlide x, int c, long above, long below) {
        due("26 above, c " + c, x.rain(0, c, 0), above);
        due("26 below, c " + c, x.rain(0, c, 1), below);
    }

    private static void promise26Rain() {
        HelterSlide one = Check.with("3000000000;p1");
        rain(one, 0, 1, 1);
        rain(one, 1, 9, 10);
        rain(one, 4, 3, 5);
        rain(one, 5, 1, 2);
        rain(one, 10, 0, 1);
        due("26 nothing is changed", one.count(5), 3);
        HelterSlide two = Check.with("3200000000;p1");
        rain(two, 3, 49, 100);
        rain(two, 5, 1, 4);
        HelterSlide nine = Check.with("8^6000000000;k1");
        rain(nine, 10, 1, 1);
        HelterSlide all = Check.with("3333333333;s5");
        rain(all, 0, 1, 1);
        HelterSlide stuck = Check.with("4000000000;p1");
        rain(stuck, 0, 0, 1);
        stuck.ride(0);
        stuck.wax(0, 2);
        rain(stuck, 1, 9, 10);
        due("26 c 11", one.rain(0, 11, 0), -1);
        due("26 c -1", one.rain(0, -1, 0), -1);
        due("26 what 2", one.rain(0, 0, 2), -1);
        due("26 what -1", one.rain(0, 0, -1), -1);
        due("26 rider 1", one.rain(1, 0, 0), -1);
        due("26 rider -1", one.rain(-1, 0, 0), -1);
    }

    private static void promises27And28Image() {
        HelterSlide x = Check.with("1111111110^1;p1<3,s20");
        due("28 none", x.restore(), -4);
        x.ride(0);
        x.wax(3, 7);
        x.seed(55);
        x.type('1');
        x.sheet(1, 1, 5);
        due("27 kept", x.image(), 1);
        x.lean(0, 0);
        x.up(0);
        x.rider(4, 9, 1);
        x.hammer(9, 8);
        x.seed(9);
        x.sheet(1, 2, 7);
        x.type('2');
        due("28 restored", x.restore(), 1);
        due("28 riders", x.count(0), 2);
        due("28 rides", x.count(1), 1);
        due("28 where", x.of(0, 3), 7);
        due("28 lean", x.of(0, 2), 3);
        due("28 rough", x.at(3, 0), 7);
        due("28 bump", x.at(9, 1), 1);
        due("28 the draw", x.seed(9), 55);
        due("28 sheets stay", x.drop(1), 7);
        due("28 the tape stays", x.type('3'), 3);
        due("28 what may be undone", x.count(7), 2);
        due("28 undone", x.undo(), 1);
        due("28 ahead of the wax", x.at(3, 0), 0);
        due("28 undone", x.undo(), 0);
        due("28 ahead of the ride", x.of(0, 3), 30);
        Check.told(x, "0000000000");
        due("28 the same image again", x.restore(), 1);
        due("28 riders", x.count(0), 2);
        due("28 what may be undone", x.count(7), 2);
        x.wax(0, 9);
        due("27 a later one", x.image(), 1);
        x.wax(0, 8);
        due("28 the later one", x.restore(), 1);
        due("28 as it was then", x.at(0, 0), 9);
        due("28 three may be undone", x.undo(), 2);
    }

    public static void main(String[] args) {
        promise17Speed();
        promise18Ends();
        promise19Fast();
        promise20Who();
        promise21Waxes();
        promise22May();
        promise23Weight();
        promise24Bump();
        promise25Order();
        promise26Rain();
        promises27And28Image();
        CHECK.end("promises 17 to 28");
    }
}
