/** The tape and the TEXT of a SLIDE: each sentence that names an edge by itself. */
public final class TextEdgesTest {
    private static final Check CHECK = new Check();
    private static final String TEN = "1111111111";

    private static void due(String call, long got, long want) {
        CHECK.due(call, got, want);
    }

    private static void told(String text, int want) {
        due("\"" + text + "\"", Check.told(new HelterSlide(), text), want);
    }

    private static String blanks(int n) {
        return " ".repeat(n);
    }

    // ---- the tape

    private static void letters() {
        HelterSlide x = new HelterSlide();
        due("31", x.type(31), -1);
        due("127", x.type(127), -1);
        due("0", x.type(0), -1);
        due("-1", x.type(-1), -1);
        due("49 and 256", x.type(49 + 256), -1);
        due("far off", x.type(Integer.MIN_VALUE) + x.type(Integer.MAX_VALUE), -2);
        due("32", x.type(32), 1);
        due("126", x.type(126), 2);
    }

    private static void seventyLetters() {
        HelterSlide x = new HelterSlide();
        Check.typeAll(x, TEN + ";p20<7" + blanks(53));
        due("the 70th", x.type(32), 70);
        due("a 71st", x.type(32), -3);
        due("again", x.type(126), -3);
        due("it is read without that", x.slide(), 1);
    }

    private static void seventyLettersAreRead() {
        told(blanks(53) + TEN + ";s20<73", -89);
        told(blanks(54) + TEN + ";s20<7", 1);
        told(TEN + blanks(59) + ";", -90);
        told(TEN + blanks(59) + "x", -89);
    }

    private static void emptyThen() {
        HelterSlide x = new HelterSlide();
        due("a slide", Check.told(x, TEN), 0);
        due("one letter", x.type('1'), 1);
        due("a fault", x.slide(), -21);
        due("one letter", x.type('1'), 1);
        x.slide();
        due("none", x.slide(), -20);
        due("none again", x.slide(), -20);
        due("as if no more had been there", Check.told(x, TEN.substring(1)), -29);
    }

    private static void fullTapeIsEmptyThen() {
        HelterSlide x = new HelterSlide();
        Check.typeAll(x, "x".repeat(70));
        due("full", x.type('1'), -3);
        due("a fault", x.slide(), -20);
        due("empty", x.type('1'), 1);
    }

    private static void howManyRiders() {
        for (int n = 1; n <= 5; n++) {
            told(TEN + ";p1,p1,p1,p1,p1".substring(0, 3 * n), n);
        }
        told(TEN, 0);
    }

    // ---- turns

    private static void tenDigits() {
        told("111111111", -29);
        told("11111111111", -30);
        told("0000000000", 0);
        told("9999999999", 0);
        told("111111111;p1", -29);
        told("1111/11111", -24);
        told("1111:11111", -24);
        told("-1111111111", -20);
        HelterSlide x = Check.with("0123456789");
        for (int t = 0; t < 10; t++) {
            due("rough", x.at(t, 0), t);
        }
    }

    private static void bumpBehindEach() {
        HelterSlide x = Check.with("1^12^23^34^45^56^67^78^89^90^1");
        for (int t = 0; t < 10; t++) {
            due("bump", x.at(t, 1), t == 9 ? 1 : t + 1);
            due("rough", x.at(t, 0), (t + 1) % 10);
        }
        told("^1" + TEN, -20);
        told("1^^1" + TEN, -22);
        told("1^1^1" + TEN, -23);
        told("1^11^1" + TEN, -34);
    }

    private static void bumpOneToNine() {
        told("111111111" + "1^1", 0);
        told("111111111" + "1^9", 0);
        told("111111111" + "1^0", -31);
        told("111111111" + "1^/", -31);
        told("111111111" + "1^:", -31);
        told("111111111" + "1^", -31);
        told("111111111" + "1^;", -31);
        told("111111111" + "1^10", -32);
    }

    private static void noBumpIsNone() {
        HelterSlide x = Check.with("1^91^91^91^91^91^91^91^91^91^9");
        due("all", x.count(6), 90);
        Check.told(x, TEN);
        due("none", x.count(6), 0);
    }

    // ---- riders

    private static void oneToFive() {
        told(TEN + ";", -31);
        told(TEN + "; ", -32);
        told(TEN + ";p1", 1);
        told(TEN + ";p1,p1,p1,p1,p1", 5);
        told(TEN + ";p1,p1,p1,p1,p1,", -45);
        told(TEN + ";p1,p1,p1,p1,p1,p1", -45);
        told(TEN + ";p1,p1,p1,p1,p1;", -45);
    }

    private static void commasBetween() {
        told(TEN + ";,p1", -31);
        told(TEN + ";p1,", -34);
        told(TEN + ";p1,,p1", -34);
        told(TEN + ";p1p1", -33);
        told(TEN + ";p1;p1", -33);
        told(TEN + ",p1", -30);
        told(TEN + "p1", -30);
        told(TEN + ";;p1", -31);
    }

    private static void fiveKinds() {
        HelterSlide x = Check.with(TEN + ";p1,s1,c1,n1,k1");
        for (int r = 0; r < 5; r++) {
            due("kind", x.of(r, 0), r);
        }
        told(TEN + ";P1", -31);
        told(TEN + ";o1", -31);
        told(TEN + ";q1", -31);
        told(TEN + ";1", -31);
        told(TEN + ";<1", -31);
    }

    private static void oneToTwenty() {
        HelterSlide x = Check.with(TEN + ";p1,p9,p10,p19,p20");
        int[] heavy = {1, 9, 10, 19, 20};
        for (int r = 0; r < 5; r++) {
            due("heavy", x.of(r, 1), heavy[r]);
        }
        told(TEN + ";p0", -32);
        told(TEN + ";p21", -32);
        told(TEN + ";p", -32);
        told(TEN + ";p<1", -32);
        told(TEN + ";p,p1", -32);
        told(TEN + ";p/", -32);
        told(TEN + ";p:", -32);
    }

    private static void zeroToSeven() {
        HelterSlide x = Check.with(TEN + ";p1<0,p20<7,p1,p2<1");
        int[] lean = {0, 7, 0, 1};
        for (int r = 0; r < 4; r++) {
            due("lean", x.of(r, 2), lean[r]);
        }
        told(TEN + ";p1<8", -34);
        told(TEN + ";p1<9", -34);
        told(TEN + ";p1</", -34);
        told(TEN + ";p1<", -34);
        told(TEN + ";p1<,", -34);
        told(TEN + ";p1<<7", -34);
        told(TEN + ";p1<7<7", -35);
        told(TEN + ";p1<77", -35);
    }

    private static void elseNoLean() {
        HelterSlide x = Check.with(TEN + ";p1<7,p1<6");
        Check.told(x, TEN + ";p1,s2");
        due("first", x.of(0, 2), 0);
        due("second", x.of(1, 2), 0);
    }

    // ---- in place of all

    private static void inPlaceOfAll() {
        HelterSlide x = Check.with("9^98^87^76^65^54^43^32^21^10^5;k9<7,n8<6,c7<5,s6<4,p5<3");
        x.ride(4);
        x.drift(5);
        due("told", Check.told(x, "0123456789;s20"), 1);
        for (int t = 0; t < 10; t++) {
            due("rough", x.at(t, 0), t);
            due("bump", x.at(t, 1), 0);
            due("who is stuck", x.at(t, 2), -4);
        }
        due("riders", x.count(0), 1);
        due("no second", x.of(1, 0), -1);
        due("at the top", x.count(2), 1);
        due("through", x.count(3), 0);
        due("stuck", x.count(4), 0);
        due("no second rides", x.order(1), -4);
        due("kind", x.of(0, 0), 1);
        due("heavy", x.of(0, 1), 20);
        due("at the top", x.of(0, 3), 30);
    }

    private static void noRides() {
        HelterSlide x = Check.with(TEN + ";p1,p1");
        x.ride(0);
        x.ride(1);
        due("two", x.count(1), 2);
        due("a fault", Check.told(x, TEN + "x"), -30);
        due("two", x.count(1), 2);
        due("foretold of two", x.weight(0), 1);
        due("a slide", Check.told(x, TEN + ";p1,p1"), 2);
        due("none", x.count(1), 0);
        due("all at the top", x.count(2), 3);
    }

    private static void whatStays() {
        HelterSlide x = Check.with(TEN + ";p1,p1");
        x.seed(99);
        x.image();
        x.sheet(2, 1, 10);
        x.film(0, 10, 2, 1, 0);
        due("a slide", Check.told(x, TEN + ";p1"), 1);
        due("the sheet's items", x.clocked(0, 0, 2, 1, 0, 10, 1), 2097150);
        due("the sheet", x.drop(2), 10);
        due("the draw", x.seed(1), 99);
        due("the image", x.restore(), 1);
        due("the image's riders", x.count(0), 2);
    }

    // ---- numbers

    private static void numberNotAsTold() {
        told(TEN + ";p0", -32);
        told(TEN + ";p00", -32);
        told(TEN + ";p21", -32);
        told(TEN + ";p30", -32);
        told(TEN + ";p99", -32);
    }

    private static void whateverFollows() {
        told(TEN + ";p0,", -32);
        told(TEN + ";p0x", -32);
        told(TEN + ";p0<9", -32);
        told(TEN + ";p0 5", -32);
        told(TEN + ";p000", -32);
        told(TEN + ";p001", -32);
        told(TEN + ";p210", -32);
        told(TEN + ";p219", -32);
        told(TEN + ";p99x", -32);
        told(TEN + ";p21 x", -32);
        told(TEN + ";p  210", -34);
    }

    private static void thirdDigit() {
        told(TEN + ";p200", -34);
        told(TEN + ";p123", -34);
        told(TEN + ";p101", -34);
        told(TEN + ";p051", -34);
        told(TEN + ";p1,s199<1", -37);
    }

    private static void twoDigits() {
        HelterSlide x = Check.with(TEN + ";p05,p01,p09,p11");
        int[] heavy = {5, 1, 9, 11};
        for (int r = 0; r < 4; r++) {
            due("heavy", x.of(r, 1), heavy[r]);
        }
    }

    // ---- faults and blanks

    private static void placeOfTheFirst() {
        told("x111111111x", -20);
        told("1x1111111x1", -21);
        told("111111111x;", -29);
        told(TEN + "x;p0", -30);
        told(TEN + ";p1x,q1", -33);
        told(TEN + ";p1,p1,p1,p1,p20<7x", -48);
    }

    private static void behindBlanks() {
        told("  x", -22);
        told("1  x", -23);
        told("1^  0", -24);
        told(TEN + "  1", -32);
        told(TEN + ";  q1", -33);
        told(TEN + ";p  0", -34);
        told(TEN + ";p  <1", -34);
        told(TEN + ";p1  p1", -35);
        told(TEN + ";p1<  8", -36);
    }

    private static void theEnd() {
        told("", -20);
        told("1", -21);
        told("111111111^", -30);
        told(TEN + ";", -31);
        told(TEN + ";p", -32);
        told(TEN + ";p1<", -34);
        told(TEN + ";p1,", -34);
    }

    private static void theEndBehindBlanks() {
        told(" ", -21);
        told(blanks(70), -90);
        told("111111111  ", -31);
        told(TEN + ";  ", -33);
        told(TEN + ";p  ", -34);
        told(TEN + ";p1<  ", -36);
        told(TEN + ";p1,  ", -36);
        told(TEN + "^  ", -33);
    }

    private static void blanksCountForNothing() {
        told("  " + TEN, 0);
        told(TEN + "  ", 0);
        told("1 1  1 1 1 1 1 1 1 1", 0);
        told("1 ^ 9" + TEN.substring(1), 0);
        told(TEN + " ; p 1 < 7 , s 20 ", 2);
        HelterSlide x = Check.with(" 2 ^ 3 11111111 1 ; s  20  < 6 ");
        due("rough", x.at(0, 0), 2);
        due("bump", x.at(0, 1), 3);
        due("heavy", x.of(0, 1), 20);
        due("lean", x.of(0, 2), 6);
    }

    private static void blanksEndANumber() {
        told(TEN + ";p1 2", -34);
        told(TEN + ";p2 0", -34);
        told(TEN + ";p1  1", -35);
        told(TEN + ";p12 3", -35);
        told(TEN + ";p2 1", -34);
        told(TEN + ";p1 ,p2 ", 2);
    }

    public static void main(String[] args) {
        CHECK.sentence("BAD: not 32 .. 126", TextEdgesTest::letters);
        CHECK.sentence("FULL: 70", TextEdgesTest::seventyLetters);
        CHECK.sentence("FULL: 70, all of them read", TextEdgesTest::seventyLettersAreRead);
        CHECK.sentence("THE TAPE, which is empty then (by a FAULT, too)", TextEdgesTest::emptyThen);
        CHECK.sentence("THE TAPE, which is empty then, full ahead of it", TextEdgesTest::fullTapeIsEmptyThen);
        CHECK.sentence("is a SLIDE: how many RIDERS", TextEdgesTest::howManyRiders);
        CHECK.sentence("10 digits (how ROUGH TURNS are)", TextEdgesTest::tenDigits);
        CHECK.sentence("behind each perhaps ^", TextEdgesTest::bumpBehindEach);
        CHECK.sentence("^ and a digit 1 .. 9 (its BUMP)", TextEdgesTest::bumpOneToNine);
        CHECK.sentence("perhaps ^ and a digit: else no BUMP", TextEdgesTest::noBumpIsNone);
        CHECK.sentence("then perhaps ; and 1 to 5 RIDERS", TextEdgesTest::oneToFive);
        CHECK.sentence("with , between", TextEdgesTest::commasBetween);
        CHECK.sentence("p s c n k (PLAIN, STOUT, CLERK, STANDER, KING)", TextEdgesTest::fiveKinds);
        CHECK.sentence("a number 1 .. 20 (HEAVY)", TextEdgesTest::oneToTwenty);
        CHECK.sentence("then perhaps < and a digit 0 .. 7", TextEdgesTest::zeroToSeven);
        CHECK.sentence("(LEAN; else 0)", TextEdgesTest::elseNoLean);
        CHECK.sentence("in place of all", TextEdgesTest::inPlaceOfAll);
        CHECK.sentence("RIDES 0", TextEdgesTest::noRides);
        CHECK.sentence("(THE DRAW, the IMAGE, SHEETS stay)", TextEdgesTest::whatStays);
        CHECK.sentence("if these are not as told, the FAULT is at the first one", TextEdgesTest::numberNotAsTold);
        CHECK.sentence("whatever follows", TextEdgesTest::whateverFollows);
        CHECK.sentence("else a third one can't stand there", TextEdgesTest::thirdDigit);
        CHECK.sentence("Numbers have 1 or 2 digits", TextEdgesTest::twoDigits);
        CHECK.sentence("-20 less the place of the first letter that can't stand there", TextEdgesTest::placeOfTheFirst);
        CHECK.sentence("the place of the first letter (behind blanks)", TextEdgesTest::behindBlanks);
        CHECK.sentence("(the end: how many there are)", TextEdgesTest::theEnd);
        CHECK.sentence("(the end: how many there are), behind blanks", TextEdgesTest::theEndBehindBlanks);
        CHECK.sentence("blanks count for nothing", TextEdgesTest::blanksCountForNothing);
        CHECK.sentence("but end a number", TextEdgesTest::blanksEndANumber);
        CHECK.end("edges of texts");
    }
}
