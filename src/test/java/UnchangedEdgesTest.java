import java.util.ArrayList;
import java.util.List;
import java.util.function.Supplier;
import java.util.function.ToLongFunction;

/** What changes nothing: of two that are alike one is asked it, and then both are alike in all that can be asked. */
public final class UnchangedEdgesTest {
    private static final Check CHECK = new Check();

    // ---- all that can be asked

    private static void askWhereAllIs(HelterSlide x, List<Long> told) {
        for (int what = 0; what < 8; what++) {
            told.add((long) x.count(what));
        }
        for (int r = 0; r < 5; r++) {
            told.add((long) x.of(r, 3));
        }
        for (int t = 0; t < 10; t++) {
            told.add((long) x.at(t, 0));
            told.add((long) x.at(t, 1));
        }
        told.add((long) x.seed(7));
    }

    private static void askOfRiders(HelterSlide x, List<Long> told) {
        for (int r = 0; r < 5; r++) {
            for (int what = 0; what < 3; what++) {
                told.add((long) x.of(r, what));
            }
        }
    }

    private static void askOfSheets(HelterSlide x, List<Long> told) {
        for (int s = 0; s < 4; s++) {
            for (int lane = 0; lane < 4; lane++) {
                told.add((long) x.clocked(0, 0, s, lane, 0, 4, 1));
                told.add((long) x.clocked(0, 0, s, lane, 4, 1, 1));
            }
            told.add((long) x.drop(s));
        }
    }

    private static void askAllBack(HelterSlide x, List<Long> told) {
        int left = 9;
        while (left > 0) {
            left = x.undo();
            told.add((long) left);
            askWhereAllIs(x, told);
        }
    }

    private static List<Long> all(HelterSlide x) {
        List<Long> told = new ArrayList<>();
        askOfSheets(x, told);
        askOfRiders(x, told);
        askWhereAllIs(x, told);
        askAllBack(x, told);
        told.add((long) x.restore());
        askOfRiders(x, told);
        askWhereAllIs(x, told);
        told.add((long) x.undo());
        told.add((long) x.type('x'));
        told.add((long) x.slide());
        return told;
    }

    private static void same(Supplier<HelterSlide> made, String call, ToLongFunction<HelterSlide> asked, long want) {
        HelterSlide x = made.get();
        CHECK.due(call, asked.applyAsLong(x), want);
        List<Long> got = all(x);
        List<Long> due = all(made.get());
        CHECK.due(call + ": how much was asked then", got.size(), due.size());
        for (int i = 0; i < Math.min(got.size(), due.size()); i++) {
            CHECK.due(call + ": then the ask " + i, got.get(i), due.get(i));
        }
    }

    // ---- what is asked of

    /** Rider 0 is STUCK on turn 4, rider 1 THROUGH, rider 2 at the TOP; four may be undone; sheet 3 is nothing. */
    private static HelterSlide busy() {
        HelterSlide x = Check.with("1111211110^1;p1<3,s20,n12<1");
        x.seed(31);
        x.wax(3, 4);
        x.image();
        x.seed(55);
        x.hammer(4, 9);
        x.ride(1);
        x.ride(0);
        x.undo();
        x.ride(0);
        x.sheet(0, 0, 5);
        x.film(0, 5, 0, 0, 0);
        x.sheet(1, 3, 12);
        x.film(0, 10, 1, 3, 0);
        x.sheet(2, 1, 0);
        Check.typeAll(x, "1^1");
        return x;
    }

    private static HelterSlide five() {
        HelterSlide x = Check.with("1111111111;p1,s2,c3,n4,k5");
        x.ride(3);
        x.wax(3, 4);
        return x;
    }

    private static HelterSlide fullTape() {
        HelterSlide x = five();
        Check.typeAll(x, "1111111111;p1,s2<7                                                    ");
        return x;
    }

    private static void busyIsAsTold() {
        HelterSlide x = busy();
        CHECK.due("stuck", x.of(0, 3), 14);
        CHECK.due("through", x.of(1, 3) < 8 ? 1 : 0, 1);
        CHECK.due("at the top", x.of(2, 3), 30);
        CHECK.due("to be undone", x.count(7), 4);
        CHECK.due("five items", x.clocked(0, 0, 0, 0, 0, 4, 1), 2097150);
        CHECK.due("the tape", x.type(' '), 4);
    }

    private static void busy(String call, ToLongFunction<HelterSlide> asked, long want) {
        same(UnchangedEdgesTest::busy, call, asked, want);
    }

    // ---- what is refused

    private static void bad() {
        busy("rider(5, 1, 0)", x -> x.rider(5, 1, 0), -1);
        busy("rider(0, 0, 0)", x -> x.rider(0, 0, 0), -1);
        busy("rider(0, 1, 8)", x -> x.rider(0, 1, 8), -1);
        busy("lean(0, 8)", x -> x.lean(0, 8), -1);
        busy("lean(0, -1)", x -> x.lean(0, -1), -1);
        busy("lean(3, 0)", x -> x.lean(3, 0), -1);
        busy("type(127)", x -> x.type(127), -1);
        busy("ride(3)", x -> x.ride(3), -1);
        busy("wax(0, 10)", x -> x.wax(0, 10), -1);
        busy("wax(10, 0)", x -> x.wax(10, 0), -1);
        busy("hammer(0, 10)", x -> x.hammer(0, 10), -1);
        busy("hammer(10, 0)", x -> x.hammer(10, 0), -1);
        busy("up(3)", x -> x.up(3), -1);
        busy("drift(0)", x -> x.drift(0), -1);
        busy("drift(41)", x -> x.drift(41), -1);
        busy("seed(-1)", x -> x.seed(-1), -1);
        busy("film(0, 11, ..)", x -> x.film(0, 11, 1, 3, 0), -1);
        busy("sheet(1, 4, 3)", x -> x.sheet(1, 4, 3), -1);
        busy("sheet(1, 3, 25)", x -> x.sheet(1, 3, 25), -1);
        busy("drop(4)", x -> x.drop(4), -1);
        busy("item(1, 4, ..)", x -> x.item(1, 4, 0, 9), -1);
        busy("copy(1, .., 4, ..)", x -> x.copy(1, 1, 4, 0, 2), -1);
    }

    private static void not() {
        busy("ride(0), who is stuck", x -> x.ride(0), -2);
        busy("ride(1), who is through", x -> x.ride(1), -2);
        busy("wax(3, 2)", x -> x.wax(3, 2), -2);
        busy("hammer(4, 9)", x -> x.hammer(4, 9), -2);
        busy("up(2)", x -> x.up(2), -2);
    }

    private static void full() {
        same(UnchangedEdgesTest::five, "rider(1, 1, 1)", x -> x.rider(1, 1, 1), -3);
        same(UnchangedEdgesTest::fullTape, "type(' ')", x -> x.type(' '), -3);
    }

    private static void none() {
        same(UnchangedEdgesTest::five, "restore()", HelterSlide::restore, -4);
        same(() -> Check.with("1203456789;k1,p2"), "undo()", HelterSlide::undo, -4);
        busy("order(1)", x -> x.order(1), -4);
        busy("speed(0, 9)", x -> x.speed(0, 9), -4);
    }

    private static void theMachines() {
        busy("film to nothing", x -> x.film(1, 2, 3, 0, 0), -11);
        busy("film of another lane", x -> x.film(1, 2, 1, 0, 0), -12);
        busy("film, the last beyond", x -> x.film(1, 2, 0, 0, 4), -13);
        busy("film, i -1", x -> x.film(1, 2, 0, 0, -1), -13);
        busy("drop of nothing", x -> x.drop(3), -11);
        busy("item of nothing", x -> x.item(3, 0, 0, 9), -11);
        busy("item of another lane", x -> x.item(1, 0, 0, 9), -12);
        busy("item, i 5", x -> x.item(0, 0, 5, 9), -13);
        busy("copy from nothing", x -> x.copy(3, 0, 1, 0, 1), -11);
        busy("copy to nothing", x -> x.copy(1, 0, 3, 0, 1), -11);
        busy("copy of unlike lanes", x -> x.copy(1, 1, 0, 0, 2), -12);
        busy("copy, i and n beyond", x -> x.copy(0, 4, 0, 0, 2), -13);
        busy("copy, j and n beyond", x -> x.copy(0, 0, 0, 4, 2), -13);
        busy("copy, n -1", x -> x.copy(0, 2, 0, 0, -1), -13);
        busy("sheet, n -1", x -> x.sheet(1, 3, -1), -14);
    }

    private static int told(HelterSlide x, String text) {
        x.slide();
        return Check.told(x, text);
    }

    /** The tape is what a FAULT does change, so of the two that are alike both have it empty. */
    private static void faults() {
        Supplier<HelterSlide> made = () -> {
            HelterSlide x = busy();
            x.slide();
            return x;
        };
        same(made, "slide() without a letter", HelterSlide::slide, -20);
        same(made, "a fault in the turns", x -> told(x, "9^9x"), -23);
        same(made, "a fault at the end", x -> told(x, "9999^9"), -26);
        same(made, "a fault in the riders", x -> told(x, "9^99^99^99^99^99^99^99^99^99^9;k20<7,s20,s"), -62);
        same(made, "one rider too many", x -> told(x, "1111111111;k1,k1,k1,k1,k1,k1"), -45);
    }

    // ---- what is foretold

    private static void foretold() {
        busy("speed(0, 3)", x -> x.speed(0, 3), 8);
        busy("ends(0)", x -> x.ends(0), 14);
        busy("ends(2)", x -> x.ends(2), 1);
        busy("fast(0, 0)", x -> x.fast(0, 0), 2);
        busy("fast(0, 1)", x -> x.fast(0, 1), 8);
        busy("who(6)", x -> x.who(6), 2);
        busy("waxes(1, 5)", x -> x.waxes(1, 5), 96);
        busy("may(1, 4)", x -> x.may(1, 4), 64);
        busy("weight(1)", x -> x.weight(1), 5);
        busy("bump(0)", x -> x.bump(0), 4);
        busy("bump(1)", x -> x.bump(1), 3);
        busy("order(-1)", x -> x.order(-1), 2);
        busy("order(0)", x -> x.order(0), 2);
        busy("rain(1, 5, 0)", x -> x.rain(1, 5, 0), 1);
        busy("rain(1, 5, 1)", x -> x.rain(1, 5, 1), 1);
    }

    private static void clocked() {
        busy("clocked(0, .., 0)", x -> x.clocked(0, 0, 0, 0, 0, 5, 0), 3);
        busy("clocked(0, .., 1)", x -> x.clocked(0, 0, 0, 0, 0, 5, 1), 2097150);
    }

    public static void main(String[] args) {
        CHECK.sentence("what is asked of is as told", UnchangedEdgesTest::busyIsAsTold);
        CHECK.sentence("What is refused changes nothing: BAD", UnchangedEdgesTest::bad);
        CHECK.sentence("What is refused changes nothing: NOT", UnchangedEdgesTest::not);
        CHECK.sentence("What is refused changes nothing: FULL", UnchangedEdgesTest::full);
        CHECK.sentence("What is refused changes nothing: NONE", UnchangedEdgesTest::none);
        CHECK.sentence("What is refused changes nothing: NULL, CAST, INDEX, SIZE", UnchangedEdgesTest::theMachines);
        CHECK.sentence("A FAULT (all else stays)", UnchangedEdgesTest::faults);
        CHECK.sentence("FORETOLD (nothing is changed)", UnchangedEdgesTest::foretold);
        CHECK.sentence("CLOCKED: FORETOLD (nothing is changed)", UnchangedEdgesTest::clocked);
        CHECK.end("edges where nothing changes");
    }
}
