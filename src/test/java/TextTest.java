import java.util.regex.Matcher;
import java.util.regex.Pattern;

/** Promise 8, the TEXT: each FAULT by hand, then thousands of texts against a pattern that is told apart from the class. */
public final class TextTest {
    private static final Check CHECK = new Check();
    private static final String TEN = "1111111111";

    private static void told(String text, int want) {
        CHECK.due("8 \"" + text + "\"", Check.told(new HelterSlide(), text), want);
    }

    private static void faultsOfTurns() {
        told("", -20);
        told("   ", -23);
        told("x", -20);
        told("  x", -22);
        told("111111111", -29);
        told("111111111  ", -31);
        told("111111111 ;", -30);
        told("11111111111", -30);
        told(TEN + "  1", -32);
        told("^1" + TEN, -20);
        told("1^0" + TEN, -22);
        told("1^ 0" + TEN, -23);
        told("1^^2" + TEN, -22);
        told("1^1^2" + TEN, -23);
        told("1^12" + TEN, -32);
        told(TEN + "^", -31);
        told(TEN + "^ ", -32);
        told(TEN + "^9", 0);
        told(" 1 1 1 1 1 1 1 1 1 1 ^ 9 ", 0);
    }

    private static void faultsOfRiders() {
        told(TEN + ";", -31);
        told(TEN + " ; ", -33);
        told(TEN + ";,", -31);
        told(TEN + ";;p1", -31);
        told(TEN + ",p1", -30);
        told(TEN + ";q1", -31);
        told(TEN + ";P1", -31);
        told(TEN + ";p", -32);
        told(TEN + ";p ", -33);
        told(TEN + ";p<1", -32);
        told(TEN + ";p1,", -34);
        told(TEN + ";p1;", -33);
        told(TEN + ";p1p2", -33);
        told(TEN + ";p1<", -34);
        told(TEN + ";p1<8", -34);
        told(TEN + ";p1<77", -35);
        told(TEN + ";p1<7<1", -35);
        told(TEN + ";p1<7,", -36);
        told(TEN + ";p1,s2,c3,n4,k5,p6", -45);
        told(TEN + ";p1,s2,c3,n4,k5", 5);
        told(TEN + " ; p 1 < 7 , s 20 ", 2);
    }

    private static void numbers() {
        told(TEN + ";p0", -32);
        told(TEN + ";p 0", -33);
        told(TEN + ";p00", -32);
        told(TEN + ";p005", -32);
        told(TEN + ";p05", 1);
        told(TEN + ";p051", -34);
        told(TEN + ";p21", -32);
        told(TEN + ";p99", -32);
        told(TEN + ";p215", -32);
        told(TEN + ";p  21", -34);
        told(TEN + ";p20", 1);
        told(TEN + ";p205", -34);
        told(TEN + ";p2 0", -34);
        told(TEN + ";p0 5", -32);
        told(TEN + ";p0x", -32);
        told(TEN + ";p3x", -33);
    }

    private static void contents() {
        HelterSlide x = Check.with("9 8^7 765 4321^1 0 ; s 2 <3, p20,n05 < 0,k1<7,c10");
        int[] rough = {9, 8, 7, 6, 5, 4, 3, 2, 1, 0};
        int[] kinds = {1, 0, 3, 4, 2};
        int[] weights = {2, 20, 5, 1, 10};
        int[] leans = {3, 0, 0, 7, 0};
        for (int t = 0; t < 10; t++) {
            CHECK.due("8 rough " + t, x.at(t, 0), rough[t]);
            CHECK.due("8 bump " + t, x.at(t, 1), t == 1 ? 7 : t == 8 ? 1 : 0);
        }
        for (int r = 0; r < 5; r++) {
            CHECK.due("8 kind " + r, x.of(r, 0), kinds[r]);
            CHECK.due("8 heavy " + r, x.of(r, 1), weights[r]);
            CHECK.due("8 lean " + r, x.of(r, 2), leans[r]);
            CHECK.due("8 where " + r, x.of(r, 3), 30);
        }
    }

    // ---- the pattern

    private static final Pattern WHOLE;

    static {
        StringBuilder text = new StringBuilder(" *");
        for (int t = 0; t < 10; t++) {
            text.append("[0-9] *(\\^ *[1-9] *)?");
        }
        String rider = "[pscnk] *(0?[1-9]|1[0-9]|20) *(< *[0-7] *)?";
        WHOLE = Pattern.compile(text + "(; *" + rider + "(, *" + rider + "){0,4})?");
    }

    private static final Pattern FIRST_DIGIT_OF_A_NUMBER = Pattern.compile(".*[pscnk] *[0-9]");

    private static boolean canGoOn(String text) {
        Matcher m = WHOLE.matcher(text);
        return m.matches() || m.hitEnd();
    }

    private static boolean isDigitAt(String text, int i) {
        return i < text.length() && Character.isDigit(text.charAt(i));
    }

    private static int dueOf(String text) {
        Matcher m = WHOLE.matcher(text);
        if (m.matches()) {
            return (int) text.chars().filter(c -> "pscnk".indexOf(c) >= 0).count();
        }
        int place = 0;
        while (place < text.length() && canGoOn(text.substring(0, place + 1))) {
            place++;
        }
        boolean behindFirst = FIRST_DIGIT_OF_A_NUMBER.matcher(text.substring(0, place)).matches();
        boolean notAsTold = behindFirst && (text.charAt(place - 1) == '0' || isDigitAt(text, place));
        return -20 - (notAsTold ? place - 1 : place);
    }

    private static String randomText(java.util.Random random) {
        StringBuilder text = new StringBuilder();
        for (int t = 0; t < 10; t++) {
            text.append(random.nextInt(10));
            text.append(random.nextInt(5) == 0 ? "^" + (1 + random.nextInt(9)) : "");
        }
        int riders = random.nextInt(6);
        for (int r = 0; r < riders; r++) {
            text.append(r == 0 ? ';' : ',').append("pscnk".charAt(random.nextInt(5))).append(1 + random.nextInt(20));
            text.append(random.nextInt(2) == 0 ? "<" + random.nextInt(8) : "");
        }
        int changes = random.nextInt(3);
        for (int i = 0; i < changes; i++) {
            int place = random.nextInt(text.length() + 1);
            char letter = "0123 ^;,<pscnk9 x".charAt(random.nextInt(17));
            switch (random.nextInt(3)) {
                case 0 -> text.insert(place, letter);
                case 1 -> text.setLength(Math.max(1, place));
                default -> text.setCharAt(Math.min(place, text.length() - 1), letter);
            }
        }
        int blanks = random.nextInt(4);
        for (int i = 0; i < blanks; i++) {
            text.insert(random.nextInt(text.length() + 1), ' ');
        }
        text.setLength(Math.min(70, text.length()));
        return text.toString();
    }

    private static void randomTexts() {
        java.util.Random random = new java.util.Random(20261119);
        int fine = 0;
        for (int i = 0; i < 40000; i++) {
            String text = randomText(random);
            int want = dueOf(text);
            fine += want >= 0 ? 1 : 0;
            told(text, want);
        }
        CHECK.due("both kinds of texts came", fine > 5000 && fine < 35000 ? 1 : 0, 1);
    }

    public static void main(String[] args) {
        faultsOfTurns();
        faultsOfRiders();
        numbers();
        contents();
        randomTexts();
        CHECK.end("promise 8, texts");
    }
}
