/** What the tests of the edges share: towns that are always the same, mixes of numbers, what a refusal may not do. */
final class Edges {
    static final int U = NamesOnIce.UNKNOWN, O = NamesOnIce.OUTSIDE, S = NamesOnIce.STATE, F = NamesOnIce.FULL;
    static final int FREE = 0;
    /** ICE of the SQUARES of busy(). */
    static final int[] BUSY_ICE = {17, 29, 2, 9, 9, 9, 9, 0, 9};
    private static final int CALLS_OF_ONE_TOWN = 150;

    interface Make {
        NamesOnIce made();
    }

    interface Call {
        long on(NamesOnIce x);
    }

    interface Mix {
        long on(NamesOnIce x, int[] v);
    }

    /** Which refusal is due for a mix of numbers; FREE: none. */
    interface Rule {
        int refusal(int[] v);
    }

    private final Due due;

    Edges(Due due) {
        this.due = due;
    }

    static boolean in(int v, int least, int most) {
        return v >= least && v <= most;
    }

    /** The last numbers that are as told, the first that are not on either side, and the farthest. */
    static int[] around(int least, int most) {
        return new int[] {Integer.MIN_VALUE, least - 1, least, most, most + 1, Integer.MAX_VALUE};
    }

    /** All numbers that are as told, the first that are not on either side, and the farthest. */
    static int[] span(int least, int most) {
        int[] all = new int[most - least + 5];
        for (int i = 0; i < most - least + 3; i++) {
            all[i] = least - 1 + i;
        }
        all[all.length - 2] = Integer.MIN_VALUE;
        all[all.length - 1] = Integer.MAX_VALUE;
        return all;
    }

    /** 3 ROWS of 3 with SNOW: DEBTS hidden (0, 1, 4, 5), SAVED (2) and GONE (3); an IMAGE, DAYS on the page, a loading. */
    static NamesOnIce busy() {
        NamesOnIce x = new NamesOnIce();
        x.ice(0, 18);
        x.ice(1, 30);
        x.ice(2, 3);
        x.ice(7, 0);
        x.write(0, 0, 0, 1, 40, 9);
        x.write(1, 1, 1, 2, 25, 9);
        x.write(2, 1, 2, 0, 30, 9);
        x.write(3, 0, 3, 4, 9, 1);
        x.write(4, 3, 4, 5, 60, 9);
        x.image();
        Due.pass(x, "t1s");
        x.saw(2);
        x.write(0, 4, 5, 0, 7, 5);
        Due.put(x, "c2t1");
        x.sledges(2, 40, 1);
        return x;
    }

    /** The same, but THE PAGE has letters that are no DAYS. */
    static NamesOnIce busyWithoutDays() {
        NamesOnIce x = busy();
        Due.put(x, "c");
        return x;
    }

    /** Nothing has room: ten DEBTS, 24 letters, sledges() done 20 times. */
    static NamesOnIce full() {
        NamesOnIce x = new NamesOnIce();
        for (int i = 0; i < 10; i++) {
            x.write(i % 5, i % 9, i % 6, (i + 1) % 6, 10 + i, 5);
        }
        x.image();
        x.saw(9);
        x.fish(1);
        Due.put(x, "c1c1c1c1c1c1c1c1c1c1c1c1");
        for (int i = 0; i < 20; i++) {
            x.sledges(1, 10, 0);
        }
        return x;
    }

    /** All that a town tells, and then what its IMAGE, its DAYS and another LAKE make of it. */
    static String trace(NamesOnIce x) {
        StringBuilder t = new StringBuilder();
        t.append(x.digest());
        for (int a = 0; a < 6; a++) {
            for (int b = 0; b < 6; b++) {
                t.append(' ').append(x.owes(a, b, true)).append(' ').append(x.owes(a, b, false));
            }
        }
        for (int debt = 0; debt < x.count(1); debt++) {
            t.append(' ').append(x.odds(debt, 3, 5, 2, 0));
        }
        t.append(' ').append(x.winter(7, 1, 0)).append(' ').append(x.winter(7, 1, 1)).append(' ').append(x.fault());
        t.append(' ').append(x.restore()).append(' ').append(x.digest());
        t.append(' ').append(x.days()).append(' ').append(x.digest());
        t.append(' ').append(x.write(0, 0, 0, 1, 1, 1)).append(' ').append(x.sledges(3, 200, 1));
        t.append(' ').append(x.lake(2, 2)).append(' ').append(x.digest()).append(' ').append(x.restore());
        return t.toString();
    }

    private void same(String sentence, NamesOnIce x, NamesOnIce untouched) {
        due.is(sentence + ": a refusal changes nothing", trace(x).equals(trace(untouched)) ? 0 : 1, 0);
    }

    /** The call is refused, and the town then goes on like one that never had the call. */
    void refused(String sentence, Make make, Call call, long want) {
        NamesOnIce x = make.made();
        due.is(sentence, call.on(x), want);
        same(sentence, x, make.made());
    }

    /** Every mix of the numbers: refused as the rule says and then without a trace, or answered. */
    void grid(String sentence, Make make, int[][] numbers, Mix call, Rule rule) {
        int[] at = new int[numbers.length];
        int[] v = new int[numbers.length];
        NamesOnIce x = make.made();
        int calls = 0;
        do {
            for (int i = 0; i < v.length; i++) {
                v[i] = numbers[i][at[i]];
            }
            int refusal = rule.refusal(v);
            if (refusal == FREE) {
                long got = call.on(make.made(), v);
                due.is(sentence + text(v) + " is answered", got >= F && got <= U ? got : 0, 0);
                continue;
            }
            due.is(sentence + text(v), call.on(x, v), refusal);
            calls++;
            if (calls == CALLS_OF_ONE_TOWN) {
                same(sentence, x, make.made());
                x = make.made();
                calls = 0;
            }
        } while (next(at, numbers));
        same(sentence, x, make.made());
    }

    private static boolean next(int[] at, int[][] numbers) {
        for (int i = 0; i < at.length; i++) {
            at[i]++;
            if (at[i] < numbers[i].length) {
                return true;
            }
            at[i] = 0;
        }
        return false;
    }

    private static String text(int[] v) {
        StringBuilder t = new StringBuilder(" (");
        for (int i = 0; i < v.length; i++) {
            t.append(i == 0 ? "" : ", ").append(v[i]);
        }
        return t.append(")").toString();
    }
}
