/** Promises 21 and 22: odds, winter. */
public final class OddsTest {
    private static final int U = NamesOnIce.UNKNOWN, O = NamesOnIce.OUTSIDE;
    private static final Due due = new Due();

    public static void main(String[] args) {
        odds();
        oddsRefused();
        winter();
        winterDays();
        winterRefused();
        due.end();
    }

    private static void oddsAre(NamesOnIce x, int[] call, long above, long below) {
        String text = "21 odds of " + call[0] + " " + call[1] + " " + call[2] + " " + call[3];
        due.is(text + " above", x.odds(call[0], call[1], call[2], call[3], 0), above);
        due.is(text + " below", x.odds(call[0], call[1], call[2], call[3], 1), below);
    }

    private static void odds() {
        NamesOnIce x = new NamesOnIce();
        x.write(0, 0, 0, 1, 5, 3);
        x.write(3, 0, 0, 1, 5, 3);
        x.write(4, 0, 0, 1, 5, 3);
        x.write(1, 0, 0, 1, 5, 3);
        x.write(0, 1, 0, 1, 5, 1);
        oddsAre(x, new int[] {0, 1, 5, 2}, 1, 1);
        oddsAre(x, new int[] {0, 1, 5, 3}, 1, 2);
        oddsAre(x, new int[] {0, 2, 3, 2}, 91, 100);
        oddsAre(x, new int[] {0, 9, 9, 3}, 1, 1000000000);
        oddsAre(x, new int[] {0, 9, 0, 9}, 1, 1);
        oddsAre(x, new int[] {1, 2, 2, 1}, 16, 25);
        oddsAre(x, new int[] {2, 2, 4, 3}, 21, 25);
        oddsAre(x, new int[] {2, 3, 5, 2}, 7, 8);
        oddsAre(x, new int[] {3, 3, 5, 2}, 7, 8);
        oddsAre(x, new int[] {3, 3, 5, 3}, 1, 2);
        oddsAre(x, new int[] {0, 9, 5, 1}, (1 + 9 + 36) / 2, 256);
        Due.pass(x, "s");
        oddsAre(x, new int[] {0, 1, 5, 3}, 1, 2);
        x.saw(1);
        oddsAre(x, new int[] {1, 9, 9, 9}, 1, 1);
        x.fish(1);
        oddsAre(x, new int[] {4, 5, 3, 1}, 0, 1);
        oddsAre(x, new int[] {4, 5, 0, 1}, 0, 1);
        NamesOnIce y = new NamesOnIce();
        y.ice(0, 9);
        y.write(4, 0, 0, 1, 5, 9);
        oddsAre(y, new int[] {0, 1, 4, 9}, 3, 5);
        oddsAre(y, new int[] {0, 1, 4, 8}, 1, 1);
        due.is("21 nothing has changed", y.square(0, 0), 9);
    }

    private static void oddsRefused() {
        NamesOnIce x = new NamesOnIce();
        due.is("21 no debt", x.odds(0, 1, 1, 1, 0), U);
        x.write(0, 0, 0, 1, 5, 3);
        due.is("21 unknown below", x.odds(-1, 1, 1, 1, 0), U);
        due.is("21 unknown first", x.odds(1, 0, 1, 1, 0), U);
        due.is("21 days below", x.odds(0, 0, 1, 1, 0), O);
        due.is("21 days above", x.odds(0, 10, 1, 1, 0), O);
        due.is("21 tenths below", x.odds(0, 1, -1, 1, 0), O);
        due.is("21 tenths above", x.odds(0, 1, 10, 1, 0), O);
        due.is("21 inches below", x.odds(0, 1, 1, 0, 0), O);
        due.is("21 inches above", x.odds(0, 1, 1, 10, 0), O);
        due.is("21 part below", x.odds(0, 1, 1, 1, -1), O);
        due.is("21 part above", x.odds(0, 1, 1, 1, 2), O);
    }

    private static long next(long seed) {
        return (1103515245L * seed + 12345L) % 2147483648L;
    }

    private static void winter() {
        NamesOnIce x = new NamesOnIce();
        x.write(1, 0, 0, 1, 5, 5);
        long before = x.digest();
        due.is("22 seed", x.winter(2, 3, 2), 465823161L);
        due.is("22 ice behind a cold of 4", x.winter(1, 0, 1), 126);
        due.is("22 nothing has changed", x.digest(), before);
        due.is("22 greatest seed", x.winter(60, Integer.MAX_VALUE, 2) >= 0 ? 1 : 0, 1);
        due.is("22 greatest seed, again", x.winter(60, Integer.MAX_VALUE, 2), x.winter(60, Integer.MAX_VALUE, 2));
    }

    /** A winter is what its days, written on the page, do. */
    private static void winterDays() {
        for (int first = 0; first < 400; first++) {
            long seed = first * 5368709L % 2147483648L;
            int start = (int) seed;
            StringBuilder text = new StringBuilder();
            for (int i = 0; i < 5; i++) {
                seed = next(seed);
                int day = (int) (seed / 65536 % 4);
                text.append("ctsw".charAt(day));
                if (day < 2) {
                    seed = next(seed);
                    text.append(seed / 65536 % 9 + 1);
                }
            }
            NamesOnIce x = town();
            int there = x.winter(5, start, 0);
            int ice = x.winter(5, start, 1);
            due.is("22 seed of " + text, x.winter(5, start, 2), seed);
            Due.pass(x, text.toString());
            due.is("22 debts behind " + text, there, x.count(2));
            due.is("22 ice behind " + text, ice, iceOf(x));
        }
    }

    private static NamesOnIce town() {
        NamesOnIce x = new NamesOnIce();
        x.ice(0, 25);
        for (int kind = 0; kind < 5; kind++) {
            x.write(kind, 0, 0, 1, 9, 8);
        }
        x.write(4, 1, 0, 1, 9, 9);
        x.write(0, 2, 0, 1, 9, 2);
        x.saw(6);
        return x;
    }

    private static int iceOf(NamesOnIce x) {
        int together = 0;
        for (int i = 0; i < x.count(0); i++) {
            together += x.square(i, 0);
        }
        return together;
    }

    private static void winterRefused() {
        NamesOnIce x = new NamesOnIce();
        due.is("22 days below", x.winter(0, 1, 0), O);
        due.is("22 days above", x.winter(61, 1, 0), O);
        due.is("22 seed below", x.winter(1, -1, 0), O);
        due.is("22 least seed", x.winter(1, Integer.MIN_VALUE, 0), O);
        due.is("22 what below", x.winter(1, 1, -1), O);
        due.is("22 what above", x.winter(1, 1, 3), O);
        due.is("22 seed 0", x.winter(1, 0, 0), 0);
        due.is("22 sixty days", x.winter(60, 0, 0), 0);
    }
}
