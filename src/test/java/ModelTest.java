import java.util.Random;

/** Random runs of 512 calls, each call on the class and on the model beside it. */
public final class ModelTest {
    private static final Due due = new Due();
    private static final int RUNS = 250;
    private static Random random;
    private static NamesOnIce x;
    private static Model m;
    private static String run;

    public static void main(String[] args) {
        for (int seed = 0; seed < RUNS; seed++) {
            random = new Random(seed);
            x = new NamesOnIce();
            m = new Model();
            for (int call = 0; call < 512; call++) {
                run = "run " + seed + " call " + call + ": ";
                step(random.nextInt(100));
            }
        }
        due.end();
    }

    private static int in(int from, int to) {
        return from + random.nextInt(to - from + 1);
    }

    /** Mostly one of the numbers that are as told, at times one beside them or far off. */
    private static int near(int from, int to) {
        switch (random.nextInt(40)) {
            case 0:
                return from - 1;
            case 1:
                return to + 1;
            case 2:
                return random.nextInt();
            case 3:
                return random.nextBoolean() ? Integer.MIN_VALUE : Integer.MAX_VALUE;
            default:
                return in(from, to);
        }
    }

    private static int aSquare() {
        return near(0, m.ice.length - 1);
    }

    private static int aDebt() {
        return near(0, Math.max(0, m.slips.size() - 1));
    }

    private static void step(int pick) {
        if (pick < 40) {
            change(pick);
        } else if (pick < 60) {
            write();
        } else if (pick < 75) {
            ask(pick);
        } else {
            askMore(pick);
        }
    }

    private static void change(int pick) {
        if (pick == 0 && random.nextInt(2) == 0) {
            int r = near(2, 4), w = near(2, 4);
            due.is(run + "lake " + r + " " + w, x.lake(r, w), m.lake(r, w));
        } else if (pick < 8) {
            int s = aSquare(), v = random.nextInt(3) == 0 ? near(0, 12) : near(0, 99);
            due.is(run + "ice " + s + " " + v, x.ice(s, v), m.ice(s, v));
        } else if (pick < 10) {
            int s = aSquare();
            due.is(run + "fish " + s, x.fish(s), m.fish(s));
        } else if (pick < 12) {
            int d = aDebt();
            due.is(run + "saw " + d, x.saw(d), m.saw(d));
        } else if (pick < 24) {
            letters();
        } else if (pick < 27) {
            due.is(run + "blank", x.blank(), m.blank());
        } else if (pick < 33) {
            due.is(run + "days of " + m.page, x.days(), m.days());
        } else if (pick < 35) {
            due.is(run + "image", x.image(), m.image());
        } else {
            due.is(run + "restore", x.restore(), m.restore());
        }
    }

    private static void letters() {
        StringBuilder text = new StringBuilder();
        int days = in(0, 4);
        for (int i = 0; i < days; i++) {
            int day = random.nextInt(4);
            text.append("cwts".charAt(day));
            if (day % 2 == 0) {
                text.append((char) ('0' + (random.nextInt(3) == 0 ? near(1, 9) : in(1, 3)) % 40));
            }
        }
        long w = Due.word(text.length() > 8 ? text.substring(0, 8) : text.toString());
        if (random.nextInt(30) == 0) {
            w ^= 1L << random.nextInt(64);
        }
        due.is(run + "letters " + w, x.letters(w), m.letters(w));
    }

    private static void write() {
        int k = near(0, 4), s = aSquare(), a = near(0, 5), b = near(0, 5);
        int sum = random.nextBoolean() ? near(1, 5) : near(1, 99), cut = near(1, 9);
        due.is(run + "write " + k + " " + s + " " + a + " " + b + " " + sum + " " + cut,
                x.write(k, s, a, b, sum, cut), m.write(k, s, a, b, sum, cut));
    }

    private static void ask(int pick) {
        if (pick < 43 + 20) {
            int s = aSquare(), what = near(0, 3);
            due.is(run + "square " + s + " " + what, x.square(s, what), m.square(s, what));
        } else if (pick < 66) {
            int d = aDebt(), what = near(0, 7);
            due.is(run + "about " + d + " " + what, x.about(d, what), m.about(d, what));
        } else if (pick < 67) {
            int d = aDebt(), k = near(0, 4);
            due.is(run + "as " + d + " " + k, x.as(d, k), m.as(d, k));
        } else if (pick < 69) {
            due.is(run + "fault of " + m.page, x.fault(), m.fault());
        } else if (pick < 71) {
            int a = near(0, 5), b = near(0, 5);
            boolean read = random.nextBoolean();
            due.is(run + "owes " + a + " " + b + " " + read, x.owes(a, b, read), m.owes(a, b, read));
        } else if (pick < 72) {
            int p = near(0, 5);
            due.is(run + "rest " + p, x.rest(p), m.rest(p));
        } else if (pick < 73) {
            int what = near(0, 5);
            due.is(run + "count " + what, x.count(what), m.count(what));
        } else {
            int what = near(0, 1);
            due.is(run + "settled " + what, x.settled(what), m.settled(what));
        }
    }

    private static void askMore(int pick) {
        if (pick < 80) {
            int k = near(0, 4), s = aSquare();
            due.is(run + "needed " + k + " " + s + " by " + m.page, x.needed(k, s), m.needed(k, s));
        } else if (pick < 84) {
            int s = aSquare();
            due.is(run + "bears " + s + " by " + m.page, x.bears(s), m.bears(s));
        } else if (pick < 86) {
            int k = near(1, 3), b = random.nextBoolean() ? near(1, 40) : near(1, 200), what = near(0, 1);
            due.is(run + "sledges " + k + " " + b + " " + what, x.sledges(k, b, what), m.sledges(k, b, what));
        } else if (pick < 92) {
            int a = aSquare(), b = aSquare(), what = near(0, 1);
            due.is(run + "skate " + a + " " + b + " " + what, x.skate(a, b, what), m.skate(a, b, what));
        } else if (pick < 94) {
            int d = aDebt(), n = near(1, 9), t = near(0, 9), i = random.nextBoolean() ? near(1, 2) : near(1, 9);
            int part = near(0, 1);
            due.is(run + "odds " + d + " " + n + " " + t + " " + i + " " + part,
                    x.odds(d, n, t, i, part), m.odds(d, n, t, i, part));
        } else if (pick < 97) {
            int n = random.nextBoolean() ? near(1, 6) : near(1, 60), seed = random.nextInt(), what = near(0, 2);
            seed = random.nextInt(9) == 0 ? seed : seed & Integer.MAX_VALUE;
            due.is(run + "winter " + n + " " + seed + " " + what, x.winter(n, seed, what), m.winter(n, seed, what));
        } else {
            due.is(run + "digest", x.digest(), m.digest());
        }
    }
}
