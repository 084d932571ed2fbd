/** What the tests share: answers held against what is due, and texts typed letter by letter. */
final class Check {
    private int wrong = 0;
    private int made = 0;
    private int sentences = 0;
    private String words = "";

    void due(String call, long got, long want) {
        made++;
        if (got != want) {
            tellWrong(call + " answered " + got + ", due is " + want);
        }
    }

    /** A sentence of the document has its own test: what goes wrong under it leaves the others be. */
    void sentence(String itsWords, Runnable test) {
        words = itsWords;
        sentences++;
        int before = made;
        try {
            test.run();
        } catch (RuntimeException e) {
            tellWrong("threw " + e);
        }
        if (made == before) {
            tellWrong("nothing was asked");
        }
        words = "";
    }

    private void tellWrong(String what) {
        wrong++;
        System.out.println(words.isEmpty() ? what : "\"" + words + "\": " + what);
    }

    /** Ends the program: a run that checked nothing is a failure, too. */
    void end(String name) {
        String own = sentences == 0 ? "" : sentences + " sentences, ";
        System.out.println(name + ": " + own + made + " answers, " + wrong + " not as due");
        if (wrong != 0 || made == 0) {
            System.exit(1);
        }
    }

    static void typeAll(HelterSlide x, String text) {
        for (int i = 0; i < text.length(); i++) {
            x.type(text.charAt(i));
        }
    }

    static int told(HelterSlide x, String text) {
        typeAll(x, text);
        return x.slide();
    }

    /** A new object with a slide told; the text is taken to be without a FAULT. */
    static HelterSlide with(String text) {
        HelterSlide x = new HelterSlide();
        if (told(x, text) < 0) {
            throw new IllegalArgumentException(text);
        }
        return x;
    }
}
