import java.util.Random;

/** Promises 2 to 34: long random runs of calls, each answer held against the model's. */
public final class ModelTest {
    private static final Check CHECK = new Check();
    private static final int RUNS = 1500;
    private static final int[] EDGES = {
        Integer.MIN_VALUE, Integer.MIN_VALUE + 1, -2, -1, 0, 1, 24, 25, 41, Integer.MAX_VALUE - 1, Integer.MAX_VALUE
    };

    private final Random random;
    private final HelterSlide x = new HelterSlide();
    private final Model m = new Model();
    private final StringBuilder story = new StringBuilder();
    private boolean fine = true;

    private ModelTest(int run) {
        random = new Random(run);
    }

    /** Mostly from least to most, now and then just beside it or far off. */
    private int number(int least, int most) {
        int kind = random.nextInt(40);
        if (kind == 0) {
            return EDGES[random.nextInt(EDGES.length)];
        }
        if (kind == 1) {
            return random.nextBoolean() ? least - 1 : most + 1;
        }
        return least + random.nextInt(most - least + 1);
    }

    private int rider() {
        return number(0, Math.max(0, m.s.riders.size() - 1));
    }

    private void same(String call, long got, long want) {
        story.append(call).append(" = ").append(want).append('\n');
        if (got != want && fine) {
            fine = false;
            System.out.print(story);
        }
        CHECK.due(call, got, want);
    }

    private String text() {
        StringBuilder text = new StringBuilder();
        int roughest = 1 + random.nextInt(9);
        for (int t = 0; t < 10; t++) {
            text.append(random.nextInt(roughest));
            text.append(random.nextInt(4) == 0 ? "^" + (1 + random.nextInt(5)) : "");
        }
        int riders = random.nextInt(6);
        for (int r = 0; r < riders; r++) {
            text.append(r == 0 ? ';' : ',').append("pscnk".charAt(random.nextInt(5))).append(1 + random.nextInt(20));
            text.append(random.nextInt(2) == 0 ? "<" + random.nextInt(8) : "");
        }
        return text.toString();
    }

    private void told() {
        String text = text();
        Check.typeAll(x, text);
        same("slide " + text, x.slide(), m.slide(text));
    }

    private void turnsAndRiders() {
        int a = rider();
        int t = number(0, 9);
        int v = number(0, 7);
        switch (random.nextInt(7)) {
            case 0 -> {
                int kind = number(0, 4);
                int heavy = number(1, 20);
                same("rider " + kind + " " + heavy + " " + v, x.rider(kind, heavy, v), m.rider(kind, heavy, v));
            }
            case 1 -> same("lean " + a + " " + v, x.lean(a, v), m.lean(a, v));
            case 2 -> {
                int what = number(0, 3);
                same("of " + a + " " + what, x.of(a, what), m.of(a, what));
            }
            case 3 -> {
                int what = number(0, 2);
                same("at " + t + " " + what, x.at(t, what), m.at(t, what));
            }
            case 4 -> {
                int speed = number(0, 30);
                same("gains " + a + " " + t + " " + speed, x.gains(a, t, speed), m.gains(a, t, speed));
            }
            default -> same("count " + v, x.count(v), m.count(v));
        }
    }

    private void done() {
        int a = rider();
        int t = number(0, 9);
        int v = number(0, 9);
        switch (random.nextInt(16)) {
            case 0, 1 -> same("wax " + t + " " + v, x.wax(t, v), m.wax(t, v));
            case 2, 3 -> same("hammer " + t + " " + v, x.hammer(t, v), m.hammer(t, v));
            case 4, 5 -> same("up " + a, x.up(a), m.up(a));
            case 6 -> {
                int n = random.nextInt(3) == 0 ? number(1, 40) : number(1, 3);
                same("drift " + n, x.drift(n), m.drift(n));
            }
            case 7, 8, 9 -> same("undo", x.undo(), m.undo());
            case 10 -> {
                int seed = random.nextInt(8) == 0 ? number(0, 9) : random.nextInt();
                same("seed " + seed, x.seed(seed), m.seed(seed));
            }
            default -> same("ride " + a, x.ride(a), m.ride(a));
        }
    }

    private void foretold() {
        int a = rider();
        int t = number(0, 9);
        int v = number(0, 7);
        int what = number(0, 1);
        switch (random.nextInt(10)) {
            case 0 -> same("speed " + a + " " + t, x.speed(a, t), m.speed(a, t));
            case 1 -> same("ends " + a, x.ends(a), m.ends(a));
            case 2 -> same("fast " + a + " " + what, x.fast(a, what), m.fast(a, what));
            case 3 -> same("who " + v, x.who(v), m.who(v));
            case 4 -> same("waxes " + a + " " + v, x.waxes(a, v), m.waxes(a, v));
            case 5 -> same("may " + a + " " + t, x.may(a, t), m.may(a, t));
            case 6 -> same("weight " + a, x.weight(a), m.weight(a));
            case 7 -> same("bump " + what, x.bump(what), m.bump(what));
            case 8 -> {
                int k = number(-1, 5);
                same("order " + k, x.order(k), m.order(k));
            }
            default -> {
                int c = number(0, 10);
                same("rain " + a + " " + c + " " + what, x.rain(a, c, what), m.rain(a, c, what));
            }
        }
    }

    private void kept() {
        if (random.nextInt(3) == 0) {
            same("image", x.image(), m.image());
        } else {
            same("restore", x.restore(), m.restore());
        }
    }

    /** Sheets and lanes are few at a time, so that rows of like lanes meet. */
    private void sheets() {
        int a = rider();
        int sheet = number(0, 3);
        int other = number(0, 3);
        int lane = random.nextInt(3) == 0 ? number(0, 3) : sheet % 2 == 0 ? 0 : 3;
        int i = number(0, 14);
        int n = number(1, 10);
        switch (random.nextInt(10)) {
            case 0, 1 -> {
                int t = number(0, 9);
                int most = random.nextInt(3) == 0 ? n : Math.max(1, Math.min(n, 10 - t));
                int what = number(0, 1);
                same("clocked " + a + " " + t + " " + sheet + " " + lane + " " + i + " " + most + " " + what,
                        x.clocked(a, t, sheet, lane, i, most, what), m.clocked(a, t, sheet, lane, i, most, what));
            }
            case 2, 3 -> same("film " + a + " " + n + " " + sheet + " " + lane + " " + i,
                    x.film(a, n, sheet, lane, i), m.film(a, n, sheet, lane, i));
            case 4, 5 -> {
                int size = random.nextInt(3) == 0 ? number(0, 10) : number(20, 24);
                same("sheet " + sheet + " " + lane + " " + size,
                        x.sheet(sheet, lane, size), m.sheet(sheet, lane, size));
            }
            case 6 -> {
                if (random.nextInt(4) == 0) {
                    same("drop " + sheet, x.drop(sheet), m.drop(sheet));
                }
            }
            case 7 -> {
                long v = random.nextInt(3) == 0 ? random.nextLong() : random.nextInt(14) - 4L + (random.nextLong() << 32);
                same("item " + sheet + " " + lane + " " + i + " " + v,
                        x.item(sheet, lane, i, v), m.item(sheet, lane, i, v));
            }
            default -> {
                int j = number(0, 14);
                same("copy " + sheet + " " + i + " " + other + " " + j + " " + n,
                        x.copy(sheet, i, other, j, n), m.copy(sheet, i, other, j, n));
            }
        }
    }

    /** A film copied about, and asked for where it came to: so items are seen again. */
    private void filmedAndClocked() {
        if (m.s.riders.isEmpty()) {
            return;
        }
        int a = random.nextInt(m.s.riders.size());
        int lane = random.nextInt(4);
        int i = random.nextInt(15);
        int j = random.nextInt(15);
        int t = random.nextInt(10);
        int n = 1 + random.nextInt(10 - t);
        same("sheet 0", x.sheet(0, lane, 24), m.sheet(0, lane, 24));
        same("film", x.film(a, 10, 0, lane, i), m.film(a, 10, 0, lane, i));
        same("copy", x.copy(0, i, 0, j, 10), m.copy(0, i, 0, j, 10));
        if (random.nextInt(4) == 0) {
            long v = random.nextInt(12) + ((long) random.nextInt(3) << 8 * random.nextInt(5));
            same("item", x.item(0, lane, j + t, v), m.item(0, lane, j + t, v));
        }
        for (int what = 0; what < 2; what++) {
            same("clocked " + a + " " + t + " " + (j + t) + " " + n + " " + what,
                    x.clocked(a, t, 0, lane, j + t, n, what), m.clocked(a, t, 0, lane, j + t, n, what));
        }
    }

    private void all() {
        for (int what = 0; what < 8; what++) {
            same("count " + what, x.count(what), m.count(what));
        }
        for (int r = 0; r < m.s.riders.size(); r++) {
            same("of " + r, x.of(r, 3), m.of(r, 3));
            same("of lean " + r, x.of(r, 2), m.of(r, 2));
        }
    }

    private void run() {
        told();
        for (int i = 0; i < 180 && fine; i++) {
            int kind = random.nextInt(100);
            if (kind < 1) {
                told();
            } else if (kind < 18) {
                turnsAndRiders();
            } else if (kind < 60) {
                done();
            } else if (kind < 78) {
                foretold();
            } else if (kind < 82) {
                kept();
            } else if (kind < 97) {
                sheets();
            } else {
                filmedAndClocked();
            }
        }
        all();
    }

    public static void main(String[] args) {
        for (int run = 0; run < RUNS; run++) {
            new ModelTest(run).run();
        }
        CHECK.end("random runs");
    }
}
