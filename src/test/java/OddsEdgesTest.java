import java.math.BigInteger;

/** The edges of 'odds, winters': ODDS, WINTERS, DRAWS; promises 21 and 22. */
public final class OddsEdgesTest {
    private static final int U = Edges.U, O = Edges.O, FREE = Edges.FREE;
    private static final int DEEP = 1, BREATH = 3, STRAW = 4;
    private static final Due due = new Due();
    private static final Edges edges = new Edges(due);

    public static void main(String[] args) {
        oddsNumbers();
        allOdds();
        oddsOfThinIce();
        forSure();
        lowestTerms();
        winterNumbers();
        oneToSixtyDays();
        seeds();
        firstDraws();
        asTheyWouldBe();
        due.end();
    }

    private static void oddsNumbers() {
        String says = "21 UNKNOWN; OUTSIDE: days (1 to 9), tenths (0 to 9), inches (1 to 9), part";
        edges.grid(says, Edges::busy,
                new int[][] {Edges.span(0, 5), Edges.around(1, 9), Edges.around(0, 9), Edges.around(1, 9),
                    Edges.around(0, 1)},
                (x, v) -> x.odds(v[0], v[1], v[2], v[3], v[4]),
                v -> !Edges.in(v[0], 0, 5) ? U
                        : Edges.in(v[1], 1, 9) && Edges.in(v[2], 0, 9) && Edges.in(v[3], 1, 9) && Edges.in(v[4], 0, 1)
                        ? FREE : O);
    }

    /** Day by day: of ten to so many ways those by which so many THAWS came. */
    private static long ways(int days, int tenths, int thawsAtMost) {
        long[] by = new long[days + 1];
        by[0] = 1;
        for (int day = 1; day <= days; day++) {
            for (int thaws = day; thaws >= 0; thaws--) {
                by[thaws] = by[thaws] * (10 - tenths) + (thaws > 0 ? by[thaws - 1] * tenths : 0);
            }
        }
        long together = 0;
        for (int thaws = 0; thaws <= Math.min(days, thawsAtMost); thaws++) {
            together += by[thaws];
        }
        return together;
    }

    private static void oddsAre(NamesOnIce x, int[] v, long above) {
        BigInteger up = BigInteger.valueOf(above);
        BigInteger down = BigInteger.TEN.pow(v[1]);
        BigInteger common = up.gcd(down);
        String text = "21 ODDS of " + v[0] + ", " + v[1] + " days, " + v[2] + " tenths, " + v[3] + " inches";
        due.is(text + " above", x.odds(v[0], v[1], v[2], v[3], 0), up.divide(common).longValueExact());
        due.is(text + " below", x.odds(v[0], v[1], v[2], v[3], 1), down.divide(common).longValueExact());
    }

    /** THAWS that leave some of the CUT, in ICE that is thick enough for all of them. */
    private static int outlasted(int kind, int cut, int inches) {
        int depth = kind == DEEP ? 2 * cut : cut;
        int each = kind == STRAW ? inches - inches / 2 : inches;
        return kind == BREATH ? 0 : (depth - 1) / each;
    }

    /** Every number that is as told, with every other one, on DEBTS of each KIND and CUT. */
    private static void allOdds() {
        for (int kind = 0; kind < 5; kind++) {
            for (int cut = 1; cut <= 9; cut++) {
                for (int days = 1; days <= 9; days++) {
                    NamesOnIce x = new NamesOnIce();
                    x.ice(0, 99);
                    x.write(kind, 0, 0, 1, 5, cut);
                    for (int tenths = 0; tenths <= 9; tenths++) {
                        for (int inches = 1; inches <= 9; inches++) {
                            long above = ways(days, tenths, outlasted(kind, cut, inches));
                            oddsAre(x, new int[] {0, days, tenths, inches}, above);
                        }
                    }
                    due.is("21 nothing changes by it", x.square(0, 0) + x.about(0, 7), 101);
                }
            }
        }
    }

    /** A STRAW whose ICE goes before its CUT. */
    private static void oddsOfThinIce() {
        for (int ice = 1; ice <= 9; ice++) {
            for (int inches = 1; inches <= 9; inches++) {
                NamesOnIce x = new NamesOnIce();
                x.ice(0, ice);
                x.write(STRAW, 0, 0, 1, 5, ice);
                int thaws = Math.min((ice - 1) / inches, outlasted(STRAW, ice, inches));
                for (int days = 1; days <= 9; days++) {
                    oddsAre(x, new int[] {0, days, 3, inches}, ways(days, 3, thaws));
                }
            }
        }
    }

    private static void forSure() {
        NamesOnIce x = new NamesOnIce();
        x.write(BREATH, 0, 0, 1, 5, 1);
        x.write(0, 0, 0, 1, 5, 1);
        x.write(0, 1, 0, 1, 5, 1);
        x.saw(0);
        x.fish(1);
        for (int days = 1; days <= 9; days++) {
            for (int tenths = 0; tenths <= 9; tenths++) {
                due.is("(SAVED: for sure) above", x.odds(0, days, tenths, 9, 0), 1);
                due.is("(SAVED: for sure) below", x.odds(0, days, tenths, 9, 1), 1);
                due.is("21 GONE: never, above", x.odds(2, days, tenths, 9, 0), 0);
                due.is("21 GONE: never, below", x.odds(2, days, tenths, 9, 1), 1);
            }
            due.is("21 tenths 0: for sure, above", x.odds(1, days, 0, 9, 0), 1);
            due.is("21 tenths 0: for sure, below", x.odds(1, days, 0, 9, 1), 1);
        }
    }

    private static void lowestTerms() {
        NamesOnIce x = new NamesOnIce();
        x.write(0, 0, 0, 1, 5, 1);
        int[][] told = {{1, 0, 1, 1}, {1, 1, 9, 10}, {1, 2, 4, 5}, {1, 3, 7, 10}, {1, 4, 3, 5}, {1, 5, 1, 2},
            {1, 6, 2, 5}, {1, 7, 3, 10}, {1, 8, 1, 5}, {1, 9, 1, 10}, {9, 9, 1, 1000000000}, {9, 8, 1, 1953125},
            {9, 5, 1, 512}, {9, 1, 387420489, 1000000000}, {9, 7, 19683, 1000000000}, {2, 8, 1, 25}};
        for (int[] t : told) {
            due.is("in lowest terms: above", x.odds(0, t[0], t[1], 1, 0), t[2]);
            due.is("in lowest terms: below", x.odds(0, t[0], t[1], 1, 1), t[3]);
        }
        Due.pass(x, "s");
        due.is("hidden or not", x.odds(0, 1, 5, 1, 1), 2);
    }

    private static void winterNumbers() {
        edges.grid("22 OUTSIDE: days (1 to 60), seed (0 at least), what", Edges::busy,
                new int[][] {Edges.around(1, 60), {Integer.MIN_VALUE, -2, -1, 0, 1, Integer.MAX_VALUE}, Edges.span(0, 2)},
                (x, v) -> x.winter(v[0], v[1], v[2]),
                v -> Edges.in(v[0], 1, 60) && v[1] >= 0 && Edges.in(v[2], 0, 2) ? FREE : O);
    }

    private static final class Draws {
        private BigInteger seed;

        Draws(int seed) {
            this.seed = BigInteger.valueOf(seed);
        }

        int of(int n) {
            seed = seed.multiply(BigInteger.valueOf(1103515245)).add(BigInteger.valueOf(12345))
                    .mod(BigInteger.TWO.pow(31));
            return seed.divide(BigInteger.valueOf(65536)).mod(BigInteger.valueOf(n)).intValueExact();
        }

        String day() {
            int day = of(4);
            return "ctsw".charAt(day) + (day < 2 ? String.valueOf(of(9) + 1) : "");
        }
    }

    private static NamesOnIce winterTown() {
        NamesOnIce x = new NamesOnIce();
        x.lake(4, 4);
        for (int s = 0; s < 16; s++) {
            x.ice(s, s * 99 / 15);
        }
        for (int i = 0; i < 9; i++) {
            x.write(i % 5, 15 - i % 4, 0, 1, 5, 9);
        }
        x.write(BREATH, 15, 0, 1, 5, 1);
        x.saw(9);
        return x;
    }

    /** What winter() tells for 1 to 60 DAYS is what the same DAYS do when they go by. */
    private static void oneToSixtyDays() {
        for (int seed : new int[] {0, 1, 2, 21, 12345, 65535, 65536, 1 << 30, Integer.MAX_VALUE - 1, Integer.MAX_VALUE}) {
            NamesOnIce gone = winterTown();
            Draws draws = new Draws(seed);
            for (int days = 1; days <= 60; days++) {
                Due.pass(gone, draws.day());
                NamesOnIce x = winterTown();
                String text = " behind " + days + " DAYS of " + seed;
                due.is("22 how many DEBTS are THERE or SAVED" + text, x.winter(days, seed, 0), gone.count(2));
                if (days % 10 == 0 || days == 1) {
                    due.is("22 ICE of all SQUARES together" + text, x.winter(days, seed, 1), iceOf(gone));
                }
                due.is("22 the SEED" + text, x.winter(days, seed, 2), draws.seed.intValueExact());
            }
        }
    }

    private static int iceOf(NamesOnIce x) {
        int together = 0;
        for (int s = 0; s < 16; s++) {
            together += x.square(s, 0);
        }
        return together;
    }

    private static void seeds() {
        NamesOnIce x = new NamesOnIce();
        due.is("22 seed (0 at least)", x.winter(1, 0, 2) >= 0 ? 1 : 0, 1);
        for (int i = 0; i < 31; i++) {
            int seed = 1 << i;
            Draws draws = new Draws(seed & Integer.MAX_VALUE);
            draws.day();
            due.is("22 its rest by 2 to the 31: " + seed, x.winter(1, seed & Integer.MAX_VALUE, 2),
                    draws.seed.intValueExact());
        }
        due.is("22 the greatest SEED is refused by no one", x.winter(60, Integer.MAX_VALUE, 2) >= 0 ? 1 : 0, 1);
        due.is("22 one more wraps, and is OUTSIDE", x.winter(60, Integer.MAX_VALUE + 1, 2), O);
    }

    /** Every DAY and every number of inches is drawn by some SEED, and acts as told; ICE of one SQUARE, the others 0. */
    private static void firstDraws() {
        boolean[] seen = new boolean[40];
        int found = 0;
        for (int seed = 0; seed < 5000000 && found < 20; seed += 997) {
            String day = new Draws(seed).day();
            int place = "ctsw".indexOf(day.charAt(0)) * 10 + (day.length() > 1 ? day.charAt(1) - '0' : 0);
            if (!seen[place]) {
                seen[place] = true;
                found++;
                NamesOnIce x = new NamesOnIce();
                x.lake(2, 2);
                x.ice(0, 95);
                x.ice(1, 5);
                int by = day.length() > 1 ? day.charAt(1) - '0' : 0;
                int ice = day.charAt(0) == 'c' ? Math.min(99, 95 + by) + 5 + 20 + 3 * by
                        : day.charAt(0) == 't' ? 95 - by + Math.max(0, 5 - by) + 20 - 2 * by : 120;
                due.is("22 ICE behind " + day + " of SEED " + seed, x.winter(1, seed, 1), ice);
            }
        }
        due.is("22 all DAYS were drawn", found, 20);
    }

    private static void asTheyWouldBe() {
        NamesOnIce x = Edges.busy();
        String untouched = Edges.trace(Edges.busy());
        for (int what = 0; what <= 2; what++) {
            x.winter(60, 7, what);
            x.winter(1, 0, what);
        }
        due.is("22 as they would be: nothing changes", Edges.trace(x).equals(untouched) ? 1 : 0, 1);
    }
}
