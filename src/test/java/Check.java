/** What the tests share: answers held against what is due, and texts typed letter by letter. */
final class Check {
    private int wrong = 0;
    private int made = 0;

    void due(String call, long got, long want) {
        made++;
        if (got != want) {
            wrong++;
            System.out.println(call + " answered " + got + ", due is " + want);
        }
    }

    /** Ends the program: a run that checked nothing is a failure, too. */
    void end(String name) {
        System.out.println(name + ": " + made + " answers, " + wrong + " not as due");
        if (wrong != 0 || made == 0) {
            System.exit(1);
        }
    }

    static void typeAll(HelterSlide x, String text) {
        for (int i = 0; i < text.length(); i++) {
            x.type(text.charAt(i));
        }
    }

    static int told(HelterSlide x, String text) {
        typeAll(x, text);
        return x.slide();
    }

    /** A new object with a slide told; the text is taken to be without a FAULT. */
    static HelterSlide with(String text) {
        HelterSlide x = new HelterSlide();
        if (told(x, text) < 0) {
            throw new IllegalArgumentException(text);
        }
        return x;
    }
}
