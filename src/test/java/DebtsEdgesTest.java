/** The edges of 'debts': PEOPLE, KINDS, SUM, CUT, THERE, GONE, READ, SAVED, WORTH; promises 6 to 9. */
public final class DebtsEdgesTest {
    private static final int N = NamesOnIce.NONE, U = Edges.U, O = Edges.O, S = Edges.S, F = Edges.F,
            FREE = Edges.FREE;
    private static final int DEBT = 0, DEEP = 1, PLEDGE = 2, BREATH = 3, STRAW = 4;
    private static final Due due = new Due();
    private static final Edges edges = new Edges(due);

    public static void main(String[] args) {
        writeNumbers();
        writeNumbersWhenFull();
        sixPeople();
        sums();
        cuts();
        tenAtMost();
        fullWhateverTheyAre();
        aboutNumbers();
        theLastDebt();
        cutAboveZero();
        strawByHalf();
        iceAboveZero();
        breath();
        goneComesNoMore();
        readWithoutSnow();
        savedStays();
        worthOfWholeTens();
        worthAsWhenSaved();
        asKinds();
        sawn();
        due.end();
    }

    private static int depth(int kind, int cut) {
        return kind == DEEP ? 2 * cut : cut;
    }

    private static int lost(int kind, int inches) {
        int[] half = {0, 1, 1, 2, 2, 3, 3, 4, 4, 5};
        return kind == STRAW ? half[inches] : inches;
    }

    private static int writeRefusal(int[] v) {
        if (!Edges.in(v[1], 0, 8) || !Edges.in(v[2], 0, 5) || !Edges.in(v[3], 0, 5) || v[2] == v[3]) {
            return U;
        }
        if (!Edges.in(v[0], 0, 4) || !Edges.in(v[4], 1, 99) || !Edges.in(v[5], 1, 9)) {
            return O;
        }
        return Edges.BUSY_ICE[v[1]] < depth(v[0], v[5]) ? S : FREE;
    }

    private static void writeNumbers() {
        String says = "6 UNKNOWN: square, debtor, creditor (unlike); OUTSIDE: kind, sum, cut; "
                + "STATE: there is less ICE than is cut";
        edges.grid(says, Edges::busy,
                new int[][] {Edges.around(0, 4), Edges.around(0, 8), Edges.around(0, 5), Edges.around(0, 5),
                    Edges.around(1, 99), Edges.around(1, 9)},
                (x, v) -> x.write(v[0], v[1], v[2], v[3], v[4], v[5]), DebtsEdgesTest::writeRefusal);
        edges.grid(says, Edges::busy,
                new int[][] {Edges.span(0, 4), Edges.span(0, 8), {0, 3}, {1, 3}, {0, 50, 100}, Edges.span(1, 9)},
                (x, v) -> x.write(v[0], v[1], v[2], v[3], v[4], v[5]), DebtsEdgesTest::writeRefusal);
    }

    /** FULL comes behind all others; in full() the ICE is 10 but for the HOLE in SQUARE 1. */
    private static void writeNumbersWhenFull() {
        edges.grid("6 STATE: there is less ICE than is cut; FULL", Edges::full,
                new int[][] {Edges.span(0, 4), Edges.span(0, 8), {-1, 0, 5, 6}, {-1, 0, 5, 6}, {0, 1, 99, 100},
                    Edges.span(1, 9)},
                (x, v) -> x.write(v[0], v[1], v[2], v[3], v[4], v[5]),
                v -> {
                    boolean unknown = !Edges.in(v[1], 0, 8) || !Edges.in(v[2], 0, 5) || !Edges.in(v[3], 0, 5)
                            || v[2] == v[3];
                    boolean outside = !Edges.in(v[0], 0, 4) || !Edges.in(v[4], 1, 99) || !Edges.in(v[5], 1, 9);
                    boolean tooDeep = v[1] == 1 || depth(v[0], v[5]) > 10;
                    return unknown ? U : outside ? O : tooDeep ? S : F;
                });
    }

    private static void sixPeople() {
        for (int a = -1; a <= 6; a++) {
            for (int b = -1; b <= 6; b++) {
                NamesOnIce x = new NamesOnIce();
                boolean known = Edges.in(a, 0, 5) && Edges.in(b, 0, 5) && a != b;
                due.is("PEOPLE are six, 0 to 5: " + a + " to " + b, x.write(0, 0, a, b, 3, 1), known ? 0 : U);
                due.is("25 DEBTS", x.count(1), known ? 1 : 0);
                if (known) {
                    due.is("7 DEBTOR", x.about(0, 2), a);
                    due.is("7 CREDITOR", x.about(0, 3), b);
                    due.is("17 it owes", x.rest(a), -3);
                    due.is("17 it is owed", x.rest(b), 3);
                }
            }
        }
    }

    private static void sums() {
        for (int sum = 0; sum <= 100; sum++) {
            NamesOnIce x = new NamesOnIce();
            boolean asTold = Edges.in(sum, 1, 99);
            due.is("of a SUM (1 to 99): " + sum, x.write(0, 0, 0, 1, sum, 1), asTold ? 0 : O);
            due.is("7 SUM", x.about(0, 4), asTold ? sum : U);
            due.is("7 WORTH", x.about(0, 6), asTold ? sum : U);
        }
    }

    private static void cuts() {
        for (int kind = 0; kind < 5; kind++) {
            for (int cut = 1; cut <= 9; cut++) {
                int deep = depth(kind, cut);
                NamesOnIce x = new NamesOnIce();
                x.ice(0, deep - 1);
                x.ice(1, deep);
                x.ice(2, 99);
                String text = " kind " + kind + " cut " + cut;
                due.is("no more than there is ICE:" + text, x.write(kind, 0, 0, 1, 5, cut), S);
                due.is("all the ICE there is:" + text, x.write(kind, 1, 0, 1, 5, cut), 0);
                due.is("CUT, 1 to 9: of a DEEP twice that:" + text, x.about(0, 5), deep);
                due.is("in thick ICE:" + text, x.write(kind, 2, 0, 1, 5, cut), 1);
                due.is("no deeper:" + text, x.about(1, 5), deep);
                due.is("it can be READ:" + text, x.about(0, 7), 2);
            }
            for (int cut : new int[] {Integer.MIN_VALUE, -1, 0, 10, 11, 1 << 30, Integer.MAX_VALUE}) {
                int k = kind;
                edges.refused("6 OUTSIDE: cut " + cut, Edges::busy, x -> x.write(k, 1, 0, 1, 5, cut), O);
            }
        }
    }

    private static void tenAtMost() {
        NamesOnIce x = new NamesOnIce();
        for (int i = 0; i < 10; i++) {
            due.is("DEBTS (10 at most, numbered)", x.write(0, 8, 5, 0, 99, 9), i);
            due.is("25 DEBTS", x.count(1), i + 1);
        }
        for (int i = 0; i < 3; i++) {
            due.is("6 FULL", x.write(0, 8, 5, 0, 99, 9), F);
        }
        due.is("25 ten", x.count(1), 10);
        due.is("16 ten of 99", x.owes(5, 0, false), 990);
        due.is("17 the most", x.rest(0), 990);
        due.is("17 the least", x.rest(5), -990);
    }

    /** Neither those GONE nor those SAVED make room; an IMAGE of fewer and another LAKE do. */
    private static void fullWhateverTheyAre() {
        NamesOnIce x = new NamesOnIce();
        for (int i = 0; i < 9; i++) {
            x.write(BREATH, i, 0, 1, 5, 1);
        }
        x.image();
        due.is("6 the tenth", x.write(0, 0, 0, 1, 5, 1), 9);
        x.saw(0);
        Due.pass(x, "t9");
        due.is("25 one is left", x.count(2), 1);
        due.is("6 FULL of those GONE", x.write(0, 0, 0, 1, 5, 1), F);
        due.is("24 nine", x.restore(), 9);
        due.is("6 room for one", x.write(STRAW, 0, 2, 3, 6, 4), 9);
        due.is("7 it is the new one", x.about(9, 4), 6);
        due.is("6 FULL again", x.write(0, 0, 0, 1, 5, 1), F);
        x.lake(3, 3);
        due.is("6 room for all", x.write(0, 0, 0, 1, 5, 1), 0);
    }

    private static void aboutNumbers() {
        edges.grid("7 UNKNOWN; OUTSIDE", Edges::busy, new int[][] {Edges.span(0, 5), Edges.span(0, 7)},
                (x, v) -> x.about(v[0], v[1]),
                v -> !Edges.in(v[0], 0, 5) ? U : !Edges.in(v[1], 0, 7) ? O : FREE);
        int[][] told = {
            {0, 0, 0, 1, 40, 8, 40, 1}, {1, 1, 1, 2, 25, 17, 25, 1}, {2, 1, 2, 0, 30, 8, 32, 3},
            {3, 0, 3, 4, 9, 0, 0, 0}, {4, 3, 4, 5, 60, 8, 60, 1}, {0, 4, 5, 0, 7, 5, 7, 1}};
        NamesOnIce x = Edges.busy();
        for (int debt = 0; debt < 6; debt++) {
            for (int what = 0; what < 8; what++) {
                due.is("7 about " + debt + " " + what, x.about(debt, what), told[debt][what]);
            }
        }
    }

    /** Of 0 to 10 DEBTS the last one is known by every call, and the one behind it by none. */
    private static void theLastDebt() {
        for (int debts = 0; debts <= 10; debts++) {
            int n = debts;
            Edges.Make make = () -> {
                NamesOnIce x = Edges.full();
                x.lake(2, 2);
                x.image();
                for (int i = 0; i < n; i++) {
                    x.write(0, 0, 0, 1, 5, 5);
                }
                return x;
            };
            Edges.Mix[] calls = {(x, v) -> x.about(v[0], 0), (x, v) -> x.as(v[0], 0), (x, v) -> x.saw(v[0]),
                (x, v) -> x.odds(v[0], 1, 1, 1, 0)};
            for (int i = 0; i < calls.length; i++) {
                edges.grid("UNKNOWN (a number names nothing): call " + i + " of " + n + " DEBTS", make,
                        new int[][] {Edges.span(0, n - 1)}, calls[i], v -> Edges.in(v[0], 0, n - 1) ? FREE : U);
            }
        }
    }

    /** One inch of CUT that is left is THERE, none is GONE; the ICE is thick. */
    private static void cutAboveZero() {
        String says = "A DEBT is THERE as long as its CUT is above 0: ";
        for (int kind : new int[] {DEBT, DEEP, PLEDGE, STRAW}) {
            for (int cut = 1; cut <= 9; cut++) {
                for (int inches = 1; inches <= 9; inches++) {
                    NamesOnIce x = new NamesOnIce();
                    x.ice(0, 50);
                    x.write(kind, 0, 0, 1, 5, cut);
                    int left = Math.max(0, depth(kind, cut) - lost(kind, inches));
                    String text = says + "kind " + kind + " cut " + cut + " by " + inches;
                    due.is(text, Due.pass(x, "t" + inches), left == 0 ? 1 : 0);
                    due.is(text + " left", x.about(0, 5), left);
                    due.is(text + " READ", x.about(0, 7), left == 0 ? 0 : 2);
                    due.is(text + " saw", x.saw(0), left == 0 ? S : 50 - inches);
                }
            }
        }
    }

    private static void strawByHalf() {
        int[] left = {9, 8, 8, 7, 7, 6, 6, 5, 5, 4};
        for (int inches = 1; inches <= 9; inches++) {
            NamesOnIce x = new NamesOnIce();
            x.ice(0, 99);
            x.write(STRAW, 0, 0, 1, 5, 9);
            Due.pass(x, "t" + inches);
            due.is("in a STRAW by half of that, rounded up: " + inches, x.about(0, 5), left[inches]);
        }
        NamesOnIce x = new NamesOnIce();
        x.ice(0, 99);
        x.write(STRAW, 0, 0, 1, 5, 9);
        due.is("rounded up each time: eight THAWS of 1", Due.pass(x, "t1t1t1t1t1t1t1t1"), 0);
        due.is("one inch is left", x.about(0, 5), 1);
        due.is("the ninth", Due.pass(x, "t1"), 1);
        due.is("each is a THAW of its own: twice 5 are 6", neededCut("t5t5"), 7);
        due.is("9 and 1 are 6", neededCut("t9t1"), 7);
        due.is("8 and 2 are 5", neededCut("t8t2"), 6);
    }

    private static int neededCut(String text) {
        NamesOnIce x = new NamesOnIce();
        x.ice(0, 99);
        Due.put(x, text);
        return x.needed(STRAW, 0);
    }

    /** CUT is left, and one inch of ICE is left, or none. */
    private static void iceAboveZero() {
        String says = "A DEBT is THERE as long as .. ICE of its SQUARE, too: ";
        for (int ice = 1; ice <= 9; ice++) {
            for (int inches = 1; inches <= 9; inches++) {
                NamesOnIce x = new NamesOnIce();
                x.ice(0, ice);
                x.write(STRAW, 0, 0, 1, 5, ice);
                int left = ice - inches > 0 ? Math.max(0, ice - lost(STRAW, inches)) : 0;
                due.is(says + ice + " by " + inches, Due.pass(x, "t" + inches), left == 0 ? 1 : 0);
                due.is(says + ice + " by " + inches + " CUT", x.about(0, 5), left);
                due.is(says + ice + " by " + inches + " WORTH", x.about(0, 6), left == 0 ? 0 : 5);
            }
        }
        NamesOnIce x = new NamesOnIce();
        x.ice(0, 9);
        x.write(STRAW, 0, 0, 1, 5, 9);
        x.ice(1, 8);
        due.is(says + "8 of 9", Due.pass(x, "t8"), 0);
        due.is(says + "CUT may be more than ICE then", x.about(0, 5), 5);
        due.is(says + "the last inch, and COLD at once", Due.pass(x, "t1c9"), 1);
        due.is(says + "it comes no more", x.about(0, 7), 0);
    }

    private static void breath() {
        for (int inches = 1; inches <= 9; inches++) {
            NamesOnIce x = new NamesOnIce();
            x.ice(0, 99);
            x.write(BREATH, 0, 0, 1, 5, 9);
            due.is("BREATH stays by others", Due.pass(x, "c9sws"), 0);
            due.is("BREATH: its CUT stays by others", x.about(0, 5), 9);
            due.is("BREATH is gone by any THAW: " + inches, Due.pass(x, "t" + inches), 1);
            due.is("BREATH: no CUT", x.about(0, 5), 0);
            due.is("BREATH: GONE", x.about(0, 7), 0);
        }
        NamesOnIce x = new NamesOnIce();
        x.write(BREATH, 0, 0, 1, 5, 1);
        Due.pass(x, "t1");
        due.is("BREATH written behind the THAW", x.write(BREATH, 0, 0, 1, 5, 1), 1);
        due.is("BREATH is THERE", x.about(1, 7), 2);
    }

    private static void goneComesNoMore() {
        NamesOnIce x = new NamesOnIce();
        x.write(DEBT, 0, 0, 1, 5, 1);
        x.write(BREATH, 1, 0, 1, 5, 1);
        x.write(PLEDGE, 2, 0, 1, 5, 9);
        x.write(STRAW, 3, 0, 1, 5, 9);
        x.fish(2);
        due.is("13 three are left", Due.pass(x, "t1"), 2);
        due.is("13 the last", Due.pass(x, "t9"), 1);
        Due.pass(x, "c9c9c9swc9");
        x.ice(0, 99);
        x.ice(2, 99);
        for (int i = 0; i < 4; i++) {
            due.is("GONE it comes no more: " + i, x.about(i, 7), 0);
            due.is("7 CUT that is left (0: it is GONE)", x.about(i, 5), 0);
            due.is("7 WORTH (0: it is GONE)", x.about(i, 6), 0);
            due.is("7 its SUM is still told", x.about(i, 4), 5);
            due.is("9 STATE: it is not THERE", x.saw(i), S);
            due.is("21 it is never THERE", x.odds(i, 1, 0, 1, 0), 0);
            due.is("21 in lowest terms", x.odds(i, 9, 5, 1, 1), 1);
        }
        due.is("13 no one is GONE twice", Due.pass(x, "t9"), 0);
        due.is("5 nor fished", x.fish(3), 0);
        due.is("25 none is left", x.count(2), 0);
    }

    private static void readWithoutSnow() {
        NamesOnIce x = new NamesOnIce();
        x.write(DEBT, 0, 0, 1, 5, 9);
        x.write(DEBT, 8, 0, 1, 7, 9);
        x.saw(1);
        for (int snow = 0; snow <= 10; snow++) {
            String says = "It can be READ, if it is THERE and there is no SNOW on it: " + snow;
            due.is(says, x.about(0, 7), snow == 0 ? 2 : 1);
            due.is(says + " SAVED", x.about(1, 7), 3);
            due.is(says + " owes", x.owes(0, 1, true), snow == 0 ? 12 : 7);
            due.is(says + " owes by all", x.owes(0, 1, false), 12);
            due.is(says + " skate", x.skate(0, 8, 1), snow == 0 ? 5 : 0);
            due.is(says + " skate there", x.skate(0, 0, 1), snow == 0 ? 5 : 0);
            due.is(says + " WORTH", x.about(0, 6), 5);
            Due.pass(x, "s");
        }
        Due.pass(x, "w");
        due.is("READ behind the WIND", x.about(0, 7), 2);
        Due.pass(x, "sc1");
        due.is("COLD leaves it hidden", x.about(0, 7), 1);
        Due.pass(x, "t1");
        due.is("READ behind the THAW", x.about(0, 7), 2);
    }

    private static void savedStays() {
        for (int kind = 0; kind < 5; kind++) {
            NamesOnIce x = new NamesOnIce();
            x.ice(0, 29);
            x.write(kind, 0, 0, 1, 5, 1);
            x.saw(0);
            int cut = x.about(0, 5);
            int worth = kind == PLEDGE || kind == STRAW ? 7 : 5;
            due.is("SAVED: none is GONE", Due.pass(x, "t9t9t9t9sssc9"), 0);
            x.fish(0);
            x.ice(0, 99);
            due.is("It is SAVED .. nothing changes it: CUT", x.about(0, 5), cut);
            due.is("nothing changes it: WORTH", x.about(0, 6), worth);
            due.is("nothing changes it: SAVED", x.about(0, 7), 3);
            due.is("it can be READ", x.owes(0, 1, true), worth);
            due.is("21 SAVED: for sure", x.odds(0, 9, 9, 9, 0), 1);
            due.is("22 SAVED in all winters", x.winter(60, 5, 0), 1);
        }
    }

    private static void worthOfWholeTens() {
        for (int ice = 1; ice <= 99; ice++) {
            NamesOnIce x = new NamesOnIce();
            x.ice(0, ice);
            for (int kind = 0; kind < 5; kind++) {
                if (depth(kind, 1) <= ice) {
                    int debt = x.write(kind, 0, kind, 5, 99, 1);
                    int more = kind == PLEDGE || kind == STRAW ? ice / 10 : 0;
                    due.is("1 more for each whole 10 inches of ICE: " + ice, x.about(debt, 6), 99 + more);
                    due.is("16 by WORTH", x.owes(kind, 5, false), 99 + more);
                }
            }
        }
    }

    private static void worthAsWhenSaved() {
        for (int ice : new int[] {9, 10, 11, 19, 20, 99}) {
            NamesOnIce x = new NamesOnIce();
            x.ice(0, ice);
            x.write(PLEDGE, 0, 0, 1, 50, 9);
            x.write(STRAW, 0, 0, 2, 50, 9);
            x.saw(0);
            Due.pass(x, "t1");
            due.is("(as when it was SAVED): " + ice, x.about(0, 6), 50 + ice / 10);
            due.is("as its ICE is now: " + ice, x.about(1, 6), 50 + (ice - 1) / 10);
            x.saw(1);
            Due.pass(x, "c9c9");
            due.is("(as when it was SAVED), behind COLD: " + ice, x.about(0, 6), 50 + ice / 10);
            due.is("(as when it was SAVED), the later one: " + ice, x.about(1, 6), 50 + (ice - 1) / 10);
        }
    }

    private static void asKinds() {
        edges.grid("8 UNKNOWN; OUTSIDE", Edges::busy, new int[][] {Edges.span(0, 5), Edges.span(0, 4)},
                (x, v) -> x.as(v[0], v[1]),
                v -> !Edges.in(v[0], 0, 5) ? U : !Edges.in(v[1], 0, 4) ? O : FREE);
        int[][] such = {{1, 0, 0, 0, 0}, {1, 1, 0, 0, 0}, {1, 0, 1, 0, 0}, {1, 0, 0, 1, 0}, {1, 0, 1, 0, 1}};
        NamesOnIce x = Edges.busy();
        for (int debt = 0; debt < 5; debt++) {
            for (int kind = 0; kind < 5; kind++) {
                due.is("All are DEBTS; a STRAW is a PLEDGE, too: " + debt + " as " + kind,
                        x.as(debt, kind), such[debt][kind] == 1 ? debt : N);
            }
        }
    }

    private static void sawn() {
        edges.grid("9 UNKNOWN; STATE: it is not THERE, or SAVED", Edges::busy, new int[][] {Edges.span(0, 5)},
                (x, v) -> x.saw(v[0]), v -> !Edges.in(v[0], 0, 5) ? U : v[0] == 2 || v[0] == 3 ? S : FREE);
        for (int ice = 1; ice <= 99; ice++) {
            NamesOnIce x = new NamesOnIce();
            x.ice(8, ice);
            x.write(DEBT, 8, 0, 1, 5, 1);
            due.is("9 its WEIGHT", x.saw(0), ice);
            due.is("9 STATE: SAVED", x.saw(0), S);
            due.is("9 ICE stays", x.square(8, 0), ice);
        }
    }
}
