/** The edges of 'the lake': ROWS, SQUARES, ICE, SNOW; promises 1 to 5. A label quotes the sentence that it tests. */
public final class LakeEdgesTest {
    private static final int U = Edges.U, O = Edges.O, S = Edges.S, FREE = Edges.FREE;
    private static final Due due = new Due();
    private static final Edges edges = new Edges(due);

    public static void main(String[] args) {
        atFirst();
        twoToFour();
        anotherLake();
        rowByRow();
        iceNumbers();
        iceState();
        atMost99();
        atLeast0();
        snow0To9();
        squareTells();
        debtsInOneSquare();
        bearsASkater();
        holes();
        noIce();
        theLast();
        due.end();
    }

    private static void atFirst() {
        NamesOnIce x = new NamesOnIce();
        for (int s = 0; s < 9; s++) {
            due.is("1 ICE (10 at first)", x.square(s, 0), 10);
            due.is("1 SNOW (0 at first)", x.square(s, 1), 0);
            due.is("1 no DEBTS", x.square(s, 2), 0);
        }
        due.is("1 A LAKE of 3 ROWS of 3 SQUARES: none below", x.square(-1, 0), U);
        due.is("1 A LAKE of 3 ROWS of 3 SQUARES: none above", x.square(9, 0), U);
        due.is("1 ROWS of 3", x.skate(0, 2, 0), 2);
        due.is("1 3 ROWS", x.skate(0, 6, 0), 2);
        due.is("1 no DEBT", x.about(0, 0), U);
        due.is("1 THE PAGE is empty", x.blank(), 0);
        due.is("1 no IMAGE", x.restore(), S);
    }

    private static void twoToFour() {
        String says = "2 OUTSIDE: rows, wide (2 to 4)";
        edges.grid(says, Edges::busy, new int[][] {Edges.span(2, 4), Edges.span(2, 4)},
                (x, v) -> x.lake(v[0], v[1]),
                v -> Edges.in(v[0], 2, 4) && Edges.in(v[1], 2, 4) ? FREE : O);
        for (int rows = 2; rows <= 4; rows++) {
            for (int wide = 2; wide <= 4; wide++) {
                NamesOnIce x = Edges.full();
                due.is("2 how many SQUARES", x.lake(rows, wide), rows * wide);
                due.is("2 count", x.count(0), rows * wide);
            }
        }
    }

    /** From the greatest to the least and back: nothing of what was is left in any SQUARE. */
    private static void anotherLake() {
        String says = "2 Another LAKE (DEBTS, SNOW, DAYS are gone; ICE is 10)";
        NamesOnIce x = new NamesOnIce();
        x.lake(4, 4);
        for (int s = 0; s < 16; s++) {
            x.ice(s, s % 2 == 0 ? 0 : 99);
        }
        for (int i = 0; i < 10; i++) {
            x.write(i % 5, 15, i % 6, (i + 1) % 6, 99, 9);
        }
        x.saw(3);
        Due.pass(x, "ssssssssss");
        x.lake(2, 2);
        due.is(says + " days", x.count(3), 0);
        due.is(says + " debts", x.count(1), 0);
        due.is(says + " standing", x.count(2), 0);
        due.is(says + " sledges", x.sledges(3, 200, 0), 0);
        due.is(says + " bits", x.sledges(3, 200, 1), 0);
        due.is(says + " winter", x.winter(1, 0, 0), 0);
        due.is(says, x.lake(4, 4), 16);
        for (int s = 0; s < 16; s++) {
            due.is(says + " ice of " + s, x.square(s, 0), 10);
            due.is(says + " snow of " + s, x.square(s, 1), 0);
            due.is(says + " debts in " + s, x.square(s, 2), 0);
            due.is(says + " fish " + s, x.fish(s), 0);
        }
        for (int i = 0; i < 10; i++) {
            due.is(says + " about " + i, x.about(i, 0), U);
        }
        for (int p = 0; p < 6; p++) {
            due.is(says + " rest of " + p, x.rest(p), 0);
        }
        x.lake(4, 4);
        for (int i = 0; i < 10; i++) {
            due.is(says + " room for ten", x.write(0, 15, 0, 1, 1, 1), i);
        }
        due.is(says + " and no more", x.write(0, 15, 0, 1, 1, 1), Edges.F);
    }

    /** SQUARES beside one another: by one step, and none over the end of a ROW. */
    private static void rowByRow() {
        String says = "numbered row by row from 0";
        for (int rows = 2; rows <= 4; rows++) {
            for (int wide = 2; wide <= 4; wide++) {
                for (int a = 0; a < rows * wide; a++) {
                    NamesOnIce x = new NamesOnIce();
                    x.lake(rows, wide);
                    for (int b = 0; b < rows * wide; b++) {
                        int steps = Math.abs(a / wide - b / wide) + Math.abs(a % wide - b % wide);
                        due.is(says + ", " + wide + " wide: " + a + " to " + b, x.skate(a, b, 0), steps);
                    }
                }
            }
        }
    }

    private static void iceNumbers() {
        String says = "3 UNKNOWN; OUTSIDE: v (0 to 99); STATE: some DEBT is in it that is THERE, not SAVED";
        edges.grid(says, Edges::busy, new int[][] {Edges.span(0, 8), Edges.around(0, 99)},
                (x, v) -> x.ice(v[0], v[1]),
                v -> !Edges.in(v[0], 0, 8) ? U : !Edges.in(v[1], 0, 99) ? O
                        : v[0] == 0 || v[0] == 1 || v[0] == 3 || v[0] == 4 ? S : FREE);
        NamesOnIce x = new NamesOnIce();
        int was = 10;
        for (int v = 0; v <= 99; v++) {
            due.is("3 ICE of a SQUARE becomes v: what it was", x.ice(8, v), was);
            due.is("3 it is v", x.square(8, 0), v);
            was = v;
        }
        due.is("3 from the most to the least", x.ice(8, 0), 99);
        due.is("3 from the least to the most", x.ice(8, 99), 0);
        due.is("3 only there", x.square(7, 0), 10);
    }

    private static void iceState() {
        String says = "3 STATE: some DEBT is in it that is THERE, not SAVED";
        NamesOnIce x = new NamesOnIce();
        x.write(0, 5, 0, 1, 1, 2);
        x.write(3, 5, 0, 1, 1, 9);
        due.is(says + ": both", x.ice(5, 10), S);
        x.saw(0);
        due.is(says + ": one is SAVED, one is THERE", x.ice(5, 11), S);
        Due.pass(x, "t1");
        due.is(says + ": one is SAVED, one is GONE", x.ice(5, 11), 9);
        due.is(says + ": the SAVED one stays", x.about(0, 7), 3);
        due.is(says + ": the GONE one comes no more", x.about(1, 7), 0);
        x.write(0, 5, 0, 1, 1, 1);
        Due.pass(x, "s");
        due.is(says + ": a hidden one is THERE", x.ice(5, 11), S);
        x.fish(5);
        due.is(says + ": in a HOLE there is none", x.ice(5, 0), 0);
    }

    private static void atMost99() {
        for (int inches = 1; inches <= 9; inches++) {
            for (int ice = 89; ice <= 99; ice++) {
                NamesOnIce x = new NamesOnIce();
                x.ice(0, ice);
                x.ice(8, ice - 1);
                Due.pass(x, "c" + inches);
                due.is("all ICE is so much more (99 at most): " + ice + " and " + inches,
                        x.square(0, 0), Math.min(99, ice + inches));
                due.is("all ICE: the last SQUARE", x.square(8, 0), Math.min(99, ice - 1 + inches));
                due.is("all ICE: another one", x.square(4, 0), 10 + inches);
            }
        }
        NamesOnIce x = new NamesOnIce();
        x.ice(0, 99);
        Due.pass(x, "c9t1");
        due.is("99 at most, and less from there", x.square(0, 0), 98);
    }

    private static void atLeast0() {
        for (int inches = 1; inches <= 9; inches++) {
            for (int ice = 0; ice <= 10; ice++) {
                NamesOnIce x = new NamesOnIce();
                x.ice(0, ice);
                Due.pass(x, "t" + inches);
                due.is("all ICE is so much less (0 at least): " + ice + " and " + inches,
                        x.square(0, 0), Math.max(0, ice - inches));
            }
        }
        NamesOnIce x = new NamesOnIce();
        x.ice(0, 1);
        Due.pass(x, "t9c1");
        due.is("0 at least, and more from there", x.square(0, 0), 1);
    }

    private static void snow0To9() {
        NamesOnIce x = new NamesOnIce();
        for (int days = 1; days <= 12; days++) {
            Due.pass(x, "s");
            for (int s = 0; s < 9; s++) {
                due.is("SNOW, 1 more (9 at most): " + days, x.square(s, 1), Math.min(9, days));
            }
        }
        Due.pass(x, "c9");
        due.is("COLD leaves SNOW", x.square(0, 1), 9);
        Due.pass(x, "w");
        due.is("WIND, all SNOW is gone", x.square(0, 1), 0);
        Due.pass(x, "w");
        due.is("WIND where there is none", x.square(0, 1), 0);
        Due.pass(x, "sssssssss");
        due.is("nine days of SNOW", x.square(8, 1), 9);
        Due.pass(x, "t1");
        due.is("THAW, SNOW is gone", x.square(8, 1), 0);
        due.is("then all ICE is less", x.square(8, 0), 18);
        Due.pass(x, "swssws");
        due.is("SNOW behind the last WIND", x.square(0, 1), 1);
        Due.pass(x, "sst1s");
        due.is("SNOW behind the last THAW", x.square(0, 1), 1);
    }

    private static void squareTells() {
        edges.grid("4 UNKNOWN; OUTSIDE", Edges::busy, new int[][] {Edges.span(0, 8), Edges.span(0, 3)},
                (x, v) -> x.square(v[0], v[1]),
                v -> !Edges.in(v[0], 0, 8) ? U : !Edges.in(v[1], 0, 3) ? O : FREE);
        NamesOnIce x = Edges.busy();
        int[] there = {1, 1, 0, 1, 1, 0, 0, 0, 0};
        for (int s = 0; s < 9; s++) {
            due.is("4 ICE", x.square(s, 0), Edges.BUSY_ICE[s]);
            due.is("4 SNOW", x.square(s, 1), 1);
            due.is("4 how many DEBTS are THERE in it (not SAVED)", x.square(s, 2), there[s]);
            due.is("4 whether it bears a SKATER", x.square(s, 3), Edges.BUSY_ICE[s] >= 4 ? 1 : 0);
        }
    }

    private static void debtsInOneSquare() {
        NamesOnIce x = new NamesOnIce();
        for (int i = 0; i < 10; i++) {
            due.is("any number of them in one", x.write(0, 8, 0, 1, 1, 1 + i % 9), i);
            due.is("4 DEBTS in it", x.square(8, 2), i + 1);
        }
        for (int i = 0; i < 9; i++) {
            x.saw(i);
            due.is("4 not SAVED", x.square(8, 2), 9 - i);
        }
        due.is("5 but those SAVED", x.fish(8), 1);
        due.is("4 none", x.square(8, 2), 0);
        due.is("25 nine are SAVED", x.count(2), 9);
    }

    private static void bearsASkater() {
        NamesOnIce x = new NamesOnIce();
        for (int ice = 0; ice <= 99; ice++) {
            x.ice(0, ice);
            due.is("4 inches of ICE or more: " + ice, x.square(0, 3), ice < 4 ? 0 : 1);
        }
    }

    private static void holes() {
        edges.grid("5 UNKNOWN; STATE: there is no ICE", Edges::busy, new int[][] {Edges.span(0, 8)},
                (x, v) -> x.fish(v[0]), v -> !Edges.in(v[0], 0, 8) ? U : v[0] == 7 ? S : FREE);
        int[] gone = {1, 1, 0, 1, 1, 0, 0, 0, 0};
        for (int s = 0; s < 9; s++) {
            if (s != 7) {
                NamesOnIce x = Edges.busy();
                due.is("5 how many DEBTS are GONE by it", x.fish(s), gone[s]);
                due.is("5 its ICE is 0", x.square(s, 0), 0);
                due.is("5 DEBTS that are left", x.count(2), 5 - gone[s]);
                due.is("5 a SAVED one of the SQUARE is left", x.about(2, 7), 3);
                due.is("5 twice", x.fish(s), S);
            }
        }
    }

    private static void noIce() {
        for (int ice = 0; ice <= 2; ice++) {
            NamesOnIce x = new NamesOnIce();
            x.ice(0, ice);
            due.is("5 STATE: there is no ICE: " + ice, x.fish(0), ice == 0 ? S : 0);
        }
        NamesOnIce x = new NamesOnIce();
        x.ice(0, 1);
        Due.pass(x, "t1");
        due.is("5 none behind a THAW", x.fish(0), S);
        Due.pass(x, "c1");
        due.is("5 an inch behind a COLD", x.fish(0), 0);
    }

    /** Of each LAKE the last SQUARE is known by every call, and the one behind it by none. */
    private static void theLast() {
        for (int rows = 2; rows <= 4; rows++) {
            for (int wide = 2; wide <= 4; wide++) {
                int r = rows;
                int w = wide;
                int last = rows * wide - 1;
                Edges.Make make = () -> {
                    NamesOnIce x = Edges.full();
                    x.lake(r, w);
                    x.image();
                    return x;
                };
                Edges.Mix[] calls = {
                    (x, v) -> x.ice(v[0], 5), (x, v) -> x.square(v[0], 0), (x, v) -> x.fish(v[0]),
                    (x, v) -> x.write(0, v[0], 0, 1, 1, 1), (x, v) -> x.needed(0, v[0]), (x, v) -> x.bears(v[0]),
                    (x, v) -> x.skate(v[0], 0, 0), (x, v) -> x.skate(0, v[0], 0)};
                for (int i = 0; i < calls.length; i++) {
                    edges.grid("UNKNOWN (a number names nothing): call " + i + " of " + (last + 1) + " SQUARES", make,
                            new int[][] {Edges.around(0, last)}, calls[i], v -> Edges.in(v[0], 0, last) ? FREE : U);
                }
            }
        }
    }
}
