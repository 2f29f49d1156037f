/** The edges of 'who owes whom': OWES, REST, SLEDGES, SETTLED, GROUPS, SKATERS; promises 16 to 20. */
public final class OwesEdgesTest {
    private static final int N = NamesOnIce.NONE, U = Edges.U, O = Edges.O, S = Edges.S, FREE = Edges.FREE;
    private static final int NOBODY = -100001;
    private static final Due due = new Due();
    private static final Edges edges = new Edges(due);

    public static void main(String[] args) {
        owesNumbers();
        owesByWhat();
        restNumbers();
        restLikeARefusal();
        sledgesNumbers();
        twentyTimes();
        refusedOnesAreNotDone();
        weightAndWhatASledgeBears();
        twoHundred();
        eachOnOne();
        likeOnes();
        nothingToLay();
        tenBlocks();
        settledNumbers();
        payments();
        groups();
        skateNumbers();
        fourInches();
        besideOneAnother();
        fewestSteps();
        mostWorth();
        due.end();
    }

    private static void owesNumbers() {
        edges.grid("16 UNKNOWN: a, b, or they are the same", Edges::busy,
                new int[][] {Edges.span(0, 5), Edges.span(0, 5), {0, 1}},
                (x, v) -> x.owes(v[0], v[1], v[2] == 1),
                v -> Edges.in(v[0], 0, 5) && Edges.in(v[1], 0, 5) && v[0] != v[1] ? FREE : U);
        NamesOnIce x = Edges.busy();
        int[][] all = new int[6][6];
        all[0][1] = 40;
        all[1][2] = 25;
        all[2][0] = 32;
        all[4][5] = 60;
        all[5][0] = 7;
        for (int a = 0; a < 6; a++) {
            for (int b = 0; b < 6; b++) {
                due.is("16 by all: " + a + " to " + b, x.owes(a, b, false), a == b ? U : all[a][b]);
                due.is("16 by those that can be READ alone: " + a + " to " + b, x.owes(a, b, true),
                        a == b ? U : a == 2 && b == 0 ? 32 : 0);
            }
        }
    }

    /** One DEBT of each condition: GONE 1, hidden 2, READ 4, SAVED 8. */
    private static void owesByWhat() {
        NamesOnIce x = new NamesOnIce();
        x.write(3, 0, 0, 1, 1, 1);
        Due.pass(x, "t1");
        x.write(0, 0, 0, 1, 8, 1);
        x.saw(1);
        x.write(0, 0, 0, 1, 2, 1);
        due.is("16 READ", x.owes(0, 1, true), 10);
        Due.pass(x, "s");
        due.is("16 all DEBTS that are THERE or SAVED", x.owes(0, 1, false), 10);
        due.is("16 or just by those that can be READ", x.owes(0, 1, true), 8);
        due.is("16 not the other way", x.owes(1, 0, false), 0);
        due.is("17 what all owe it less what it owes", x.rest(1), 10);
        x.write(0, 0, 1, 0, 99, 1);
        due.is("17 it may be below 0", x.rest(1), -89);
        due.is("16 one way", x.owes(0, 1, false), 10);
        due.is("16 the other way", x.owes(1, 0, false), 99);
    }

    private static void restNumbers() {
        edges.grid("17 -100001: UNKNOWN", Edges::busy, new int[][] {Edges.span(0, 5)},
                (x, v) -> x.rest(v[0]), v -> Edges.in(v[0], 0, 5) ? FREE : NOBODY);
        int[] rests = {-1, 15, -7, 0, -60, 53};
        for (int p = 0; p < 6; p++) {
            due.is("17 REST of " + p, Edges.busy().rest(p), rests[p]);
        }
    }

    /** A REST may be as low as a refusal's number, and is none. */
    private static void restLikeARefusal() {
        for (int owed = 95; owed <= 108; owed++) {
            NamesOnIce x = new NamesOnIce();
            x.write(0, 0, 3, 4, 90, 1);
            x.write(0, 1, 3, 5, owed - 90, 1);
            due.is("17 REST (it may be below 0)", x.rest(3), -owed);
            due.is("17 what all owe it", x.rest(4) + x.rest(5), owed);
        }
        NamesOnIce x = new NamesOnIce();
        x.ice(0, 99);
        for (int i = 0; i < 10; i++) {
            x.write(2, 0, 0, 1 + i % 5, 99, 9);
        }
        due.is("17 the least", x.rest(0), -1080);
        for (int p = 1; p < 6; p++) {
            due.is("17 a fifth of it", x.rest(p), 216);
        }
    }

    private static boolean asTold(int[] v) {
        return Edges.in(v[0], 1, 3) && Edges.in(v[1], 1, 200) && Edges.in(v[2], 0, 1);
    }

    private static void sledgesNumbers() {
        int[][] numbers = {Edges.span(1, 3), Edges.around(1, 200), Edges.span(0, 1)};
        Edges.Mix call = (x, v) -> x.sledges(v[0], v[1], v[2]);
        edges.grid("18 OUTSIDE: sledges (1 to 3), bears (1 to 200), what", Edges::busy, numbers, call,
                v -> asTold(v) ? FREE : O);
        edges.grid("18 STATE: sledges() was done 20 times", Edges::full, numbers, call, v -> asTold(v) ? S : O);
    }

    private static void twentyTimes() {
        NamesOnIce x = new NamesOnIce();
        x.write(0, 0, 0, 1, 7, 1);
        for (int i = 1; i <= 20; i++) {
            due.is("18 done " + i + " times", x.sledges(1 + i % 3, 10, i % 2), i % 2 == 0 ? 7 : 1);
            due.is("25 how often sledges() was done", x.count(5), i);
        }
        for (int i = 0; i < 3; i++) {
            due.is("18 STATE: sledges() was done 20 times", x.sledges(1, 10, 0), S);
            due.is("25 it is not done again", x.count(5), 20);
        }
    }

    private static void refusedOnesAreNotDone() {
        NamesOnIce x = new NamesOnIce();
        for (int i = 0; i < 30; i++) {
            due.is("18 OUTSIDE", x.sledges(i % 2 == 0 ? 0 : 4, 10, 0), O);
            due.is("18 OUTSIDE", x.sledges(1, i % 2 == 0 ? 0 : 201, 0), O);
            due.is("18 OUTSIDE", x.sledges(1, 10, i % 2 == 0 ? -1 : 2), O);
        }
        due.is("25 not done", x.count(5), 0);
        for (int i = 0; i < 20; i++) {
            due.is("18 still twenty times", x.sledges(3, 200, 0), 0);
        }
        due.is("18 and no more", x.sledges(3, 200, 0), S);
    }

    private static void weightAndWhatASledgeBears() {
        for (int ice = 1; ice <= 99; ice++) {
            NamesOnIce x = new NamesOnIce();
            x.ice(8, ice);
            x.write(0, 8, 0, 1, 7, 1);
            if (ice > 1) {
                due.is("each bears so much: an inch too little for " + ice, x.sledges(3, ice - 1, 0), 0);
            }
            due.is("WEIGHT of a block is the ICE of its SQUARE: " + ice, x.sledges(1, ice, 0), 7);
            due.is("18 which DEBTS, as bits", x.sledges(1, ice, 1), 1);
            x.write(0, 8, 0, 1, 8, 1);
            due.is("both on one: an inch too little", x.sledges(1, 2 * ice - 1, 0), 8);
            due.is("both on one", x.sledges(1, 2 * ice, 0), 15);
            due.is("both on two", x.sledges(2, ice, 0), 15);
        }
    }

    private static void twoHundred() {
        NamesOnIce x = new NamesOnIce();
        x.ice(0, 99);
        x.ice(1, 99);
        x.ice(2, 2);
        x.write(0, 0, 0, 1, 10, 1);
        x.write(0, 1, 0, 1, 10, 1);
        x.write(0, 2, 0, 1, 5, 1);
        due.is("bears 200: 99, 99 and 2", x.sledges(1, 200, 0), 25);
        due.is("bears 199: no", x.sledges(1, 199, 0), 20);
        due.is("bears 1: nothing so light", x.sledges(3, 1, 0), 0);
        due.is("bears 2", x.sledges(3, 2, 1), 4);
        x.ice(3, 1);
        x.write(0, 3, 0, 1, 1, 1);
        due.is("bears 1: one inch", x.sledges(1, 1, 1), 8);
        due.is("bears 200: no inch more", x.sledges(1, 200, 1), 7);
        due.is("two of 200", x.sledges(2, 200, 1), 15);
        NamesOnIce y = new NamesOnIce();
        y.ice(0, 66);
        for (int i = 0; i < 10; i++) {
            y.write(0, 0, 0, 1, 10 + i, 1);
        }
        due.is("three sledges of three blocks of 66", y.sledges(3, 200, 1), 1022);
        due.is("198 will do", y.sledges(3, 198, 1), 1022);
        due.is("197: two on each", y.sledges(3, 197, 1), 1008);
        due.is("two sledges", y.sledges(2, 200, 1), 1008);
        due.is("one sledge", y.sledges(1, 200, 1), 896);
    }

    private static void eachOnOne() {
        NamesOnIce x = new NamesOnIce();
        x.ice(0, 6);
        x.write(0, 0, 0, 1, 9, 1);
        x.write(0, 0, 0, 1, 8, 1);
        x.write(0, 0, 0, 1, 7, 1);
        due.is("(each on one): three of 5 bear no block of 6", x.sledges(3, 5, 0), 0);
        due.is("two of 9 bear two of 6, not three", x.sledges(2, 9, 0), 17);
        due.is("two of 11, too", x.sledges(2, 11, 1), 3);
        due.is("two of 12 bear three", x.sledges(2, 12, 1), 7);
        NamesOnIce y = new NamesOnIce();
        int[] ice = {7, 6, 5, 4, 4, 4};
        for (int i = 0; i < ice.length; i++) {
            y.ice(i, ice[i]);
            y.write(0, i, 0, 1, 10, 1);
        }
        due.is("laid one behind another they would not fit: 7+4+4, 6+5+4", y.sledges(2, 15, 1), 63);
        due.is("an inch less", y.sledges(2, 14, 0), 50);
        due.is("three: 6+4, 7, 5+4 and one is left", y.sledges(3, 10, 0), 50);
        due.is("three: 7+4, 6+4, 5+4", y.sledges(3, 11, 1), 63);
    }

    private static void likeOnes() {
        NamesOnIce x = new NamesOnIce();
        x.ice(0, 5);
        x.ice(1, 5);
        x.write(0, 0, 0, 1, 10, 1);
        x.write(0, 1, 0, 1, 10, 1);
        x.write(0, 2, 0, 1, 20, 1);
        x.write(0, 3, 0, 1, 20, 1);
        due.is("of like ones the fewest, then of least bits", x.sledges(1, 10, 1), 4);
        x.fish(2);
        due.is("the fewest, though of more bits", x.sledges(1, 10, 1), 8);
        x.fish(3);
        due.is("both", x.sledges(1, 10, 1), 3);
        due.is("of least bits", x.sledges(1, 9, 1), 1);
        NamesOnIce y = new NamesOnIce();
        for (int i = 0; i < 10; i++) {
            y.write(0, i % 9, 0, 1, 50, 1);
        }
        due.is("of least bits: one of ten", y.sledges(1, 10, 1), 1);
        due.is("of least bits: three of ten", y.sledges(3, 10, 1), 7);
        due.is("of least bits: six of ten", y.sledges(3, 20, 1), 63);
        NamesOnIce z = new NamesOnIce();
        int[] sums = {1, 3, 2, 2, 4};
        for (int i = 0; i < sums.length; i++) {
            z.ice(i, sums[i]);
            z.write(0, i, 0, 1, sums[i], 1);
        }
        due.is("5 by two: 1 and 4 or 3 and 2: bits 17, 6, 10", z.sledges(1, 5, 1), 6);
        due.is("4 by one: bits 16, by two: 3", z.sledges(1, 4, 1), 16);
        due.is("7 by two: 3 and 4", z.sledges(1, 7, 1), 18);
        due.is("8 by three: bits 19, 28, by four: 15", z.sledges(1, 8, 1), 19);
    }

    private static void nothingToLay() {
        NamesOnIce x = new NamesOnIce();
        due.is("18 no DEBTS: WORTH", x.sledges(3, 200, 0), 0);
        due.is("18 no DEBTS: bits", x.sledges(3, 200, 1), 0);
        x.write(0, 0, 0, 1, 5, 1);
        x.write(3, 0, 0, 1, 6, 1);
        x.saw(0);
        due.is("THERE and not SAVED", x.sledges(3, 200, 1), 2);
        Due.pass(x, "s");
        due.is("hidden ones are THERE", x.sledges(3, 200, 1), 2);
        Due.pass(x, "t1");
        due.is("neither SAVED nor GONE ones: WORTH", x.sledges(3, 200, 0), 0);
        due.is("neither SAVED nor GONE ones: bits", x.sledges(3, 200, 1), 0);
        due.is("nothing is sawn by it", x.count(2), 1);
    }

    private static void tenBlocks() {
        NamesOnIce x = new NamesOnIce();
        x.ice(0, 1);
        for (int i = 0; i < 10; i++) {
            x.write(0, 0, 0, 1, 1 + i, 1);
        }
        for (int bears = 1; bears <= 4; bears++) {
            for (int sledges = 1; sledges <= 3; sledges++) {
                int laid = Math.min(10, bears * sledges);
                int bits = ((1 << laid) - 1) << (10 - laid);
                due.is("18 the " + laid + " of most WORTH", x.sledges(sledges, bears, 1), bits);
            }
        }
        due.is("18 all together", x.sledges(1, 10, 0), 55);
        due.is("18 all bits", x.sledges(1, 10, 1), 1023);
        due.is("18 but one", x.sledges(1, 9, 0), 54);
    }

    private static void settledNumbers() {
        edges.grid("19 OUTSIDE", Edges::busy, new int[][] {Edges.span(0, 1)},
                (x, v) -> x.settled(v[0]), v -> Edges.in(v[0], 0, 1) ? FREE : O);
    }

    private static void settledIs(int[][] debts, int payments) {
        NamesOnIce x = new NamesOnIce();
        for (int[] d : debts) {
            x.write(0, 0, d[0], d[1], d[2], 1);
        }
        due.is("19 SETTLED by the fewest payments", x.settled(0), payments);
        due.is("19 GROUPS", x.settled(1), 6 - payments);
        Due.pass(x, "s");
        due.is("19 (by all DEBTS THERE or SAVED)", x.settled(0), payments);
        x.fish(0);
        due.is("19 those GONE are nothing", x.settled(0), 0);
        due.is("19 each is a set alone", x.settled(1), 6);
    }

    /** From none to five. */
    private static void payments() {
        settledIs(new int[][] {}, 0);
        settledIs(new int[][] {{0, 1, 5}, {1, 2, 5}, {2, 0, 5}}, 0);
        settledIs(new int[][] {{0, 5, 99}}, 1);
        settledIs(new int[][] {{0, 1, 1}, {1, 2, 1}, {2, 3, 1}, {3, 4, 1}, {4, 5, 1}}, 1);
        settledIs(new int[][] {{0, 1, 1}, {2, 3, 1}}, 2);
        settledIs(new int[][] {{0, 1, 1}, {0, 2, 1}}, 2);
        settledIs(new int[][] {{0, 1, 1}, {2, 3, 1}, {4, 5, 1}}, 3);
        settledIs(new int[][] {{0, 1, 1}, {2, 3, 2}, {4, 5, 3}}, 3);
        settledIs(new int[][] {{0, 1, 1}, {0, 2, 2}, {0, 3, 4}}, 3);
        settledIs(new int[][] {{0, 1, 1}, {0, 2, 2}, {3, 4, 9}}, 3);
        settledIs(new int[][] {{0, 1, 1}, {0, 2, 2}, {3, 4, 9}, {3, 5, 7}}, 4);
        settledIs(new int[][] {{0, 1, 5}, {0, 2, 7}, {3, 4, 5}, {3, 5, 7}}, 4);
        settledIs(new int[][] {{0, 1, 1}, {0, 2, 2}, {0, 3, 4}, {0, 4, 8}, {0, 5, 16}}, 5);
        settledIs(new int[][] {{0, 1, 16}, {2, 1, 8}, {3, 1, 4}, {4, 1, 2}, {5, 1, 1}}, 5);
        settledIs(new int[][] {{0, 3, 10}, {1, 3, 1}, {1, 4, 10}, {2, 4, 3}, {2, 5, 10}}, 3);
        settledIs(new int[][] {{0, 3, 5}, {0, 4, 2}, {1, 4, 7}, {1, 5, 4}, {2, 5, 13}}, 5);
    }

    /** RESTS of whole sets: three pairs, two threes, a pair and a four, by whom the sets are made of. */
    private static void groups() {
        for (int a = 0; a < 6; a++) {
            for (int b = 0; b < 6; b++) {
                if (a != b) {
                    NamesOnIce x = new NamesOnIce();
                    x.ice(0, 19);
                    x.write(2, 0, a, b, 98, 1);
                    x.saw(0);
                    due.is("19 one pair: " + a + " " + b, x.settled(0), 1);
                    due.is("19 and four alone", x.settled(1), 5);
                    x.write(0, 1, b, a, 99, 1);
                    due.is("19 RESTS by WORTH are 0", x.settled(0), 0);
                    due.is("19 the most sets", x.settled(1), 6);
                    x.fish(1);
                    due.is("19 the SAVED one stays", x.settled(1), 5);
                }
            }
        }
    }

    private static void skateNumbers() {
        edges.grid("20 UNKNOWN: a, b; OUTSIDE", Edges::busy,
                new int[][] {Edges.span(0, 8), Edges.span(0, 8), Edges.span(0, 1)},
                (x, v) -> x.skate(v[0], v[1], v[2]),
                v -> !Edges.in(v[0], 0, 8) || !Edges.in(v[1], 0, 8) ? U : Edges.in(v[2], 0, 1) ? FREE : O);
    }

    /** Two ROWS of two with one SQUARE of so much ICE: the first, the last, or one on the way. */
    private static void fourInches() {
        for (int ice = 0; ice <= 6; ice++) {
            boolean bears = ice >= 4;
            String says = "that have 4 inches of ICE or more (both, too): " + ice;
            NamesOnIce x = new NamesOnIce();
            x.lake(2, 2);
            x.ice(0, ice);
            due.is(says + " from it", x.skate(0, 1, 0), bears ? 1 : N);
            due.is(says + " to it", x.skate(1, 0, 0), bears ? 1 : N);
            due.is(says + " to it: WORTH", x.skate(1, 0, 1), bears ? 0 : N);
            due.is(says + " in it", x.skate(0, 0, 0), bears ? 0 : N);
            due.is(says + " in it: WORTH", x.skate(0, 0, 1), bears ? 0 : N);
            due.is(says + " round it", x.skate(1, 2, 0), 2);
            x.ice(3, 0);
            due.is(says + " over it", x.skate(1, 2, 0), bears ? 2 : N);
            due.is(says + " over it: WORTH", x.skate(1, 2, 1), bears ? 0 : N);
        }
        NamesOnIce x = new NamesOnIce();
        x.ice(4, 5);
        x.write(0, 4, 0, 1, 9, 5);
        due.is("20 READ on 5 inches", x.skate(4, 4, 1), 9);
        Due.pass(x, "t1");
        due.is("20 READ on 4 inches", x.skate(4, 4, 1), 9);
        Due.pass(x, "t1");
        due.is("20 3 inches do not bear, though it can be READ", x.skate(4, 4, 1), N);
        due.is("7 it can be READ", x.about(0, 7), 2);
    }

    /** From the middle to each side one step; to the corners two, or none if the sides are HOLES. */
    private static void besideOneAnother() {
        NamesOnIce x = new NamesOnIce();
        int[] steps = {2, 1, 2, 1, 0, 1, 2, 1, 2};
        for (int b = 0; b < 9; b++) {
            due.is("(up, right, down, left): 4 to " + b, x.skate(4, b, 0), steps[b]);
        }
        for (int hole : new int[] {1, 3, 5, 7}) {
            x.fish(hole);
        }
        for (int b = 0; b < 9; b++) {
            due.is("none: 4 to " + b, x.skate(4, b, 0), b == 4 ? 0 : N);
        }
        for (int wide = 2; wide <= 4; wide++) {
            NamesOnIce y = new NamesOnIce();
            y.lake(2, wide);
            for (int s = 1; s < wide - 1; s++) {
                y.fish(s);
            }
            y.fish(wide == 2 ? 0 : wide);
            int from = wide - 1;
            int to = wide == 2 ? 2 : wide + 1;
            due.is("no step over the end of a ROW: " + wide, y.skate(from, to, 0), wide == 2 ? 2 : wide - 1);
        }
    }

    /** Round HOLES: the longest way of a LAKE of 4 by 4. */
    private static void fewestSteps() {
        NamesOnIce x = new NamesOnIce();
        x.lake(4, 4);
        due.is("20 across", x.skate(0, 15, 0), 6);
        for (int hole : new int[] {1, 5, 9, 7, 11, 15}) {
            x.fish(hole);
        }
        due.is("20 down, up and down again", x.skate(0, 3, 0), 9);
        x.write(0, 12, 0, 1, 5, 4);
        x.write(0, 13, 0, 1, 6, 4);
        due.is("20 what is READ there", x.skate(0, 3, 1), 11);
        x.fish(13);
        due.is("20 NONE: there is no way", x.skate(0, 3, 0), N);
        due.is("20 NONE: WORTH", x.skate(0, 3, 1), N);
        due.is("20 one part is whole", x.skate(12, 0, 0), 3);
        due.is("20 the other, too", x.skate(14, 3, 0), 4);
    }

    /** A way of more steps is worth nothing, whatever is written there; SAVED, GONE and hidden ones are not READ. */
    private static void mostWorth() {
        NamesOnIce x = new NamesOnIce();
        x.lake(2, 3);
        x.write(2, 3, 0, 1, 98, 1);
        x.write(0, 4, 0, 1, 99, 1);
        x.write(0, 5, 0, 1, 99, 1);
        due.is("on a way of fewest steps", x.skate(0, 2, 1), 0);
        due.is("by WORTH: the first and the last, too", x.skate(3, 5, 1), 297);
        due.is("the most WORTH: 0 3 4, not 0 1 4", x.skate(0, 4, 1), 198);
        x.write(0, 1, 0, 1, 99, 1);
        due.is("as much by either way", x.skate(0, 4, 1), 198);
        x.write(0, 1, 0, 1, 1, 1);
        due.is("all that are in a SQUARE", x.skate(0, 4, 1), 199);
        x.saw(3);
        due.is("not SAVED", x.skate(0, 4, 1), 198);
        Due.pass(x, "s");
        due.is("that it can READ", x.skate(0, 4, 1), 0);
        due.is("20 steps in SNOW", x.skate(0, 4, 0), 2);
        Due.pass(x, "t1");
        due.is("none is left", x.skate(0, 4, 1), 0);
    }
}
