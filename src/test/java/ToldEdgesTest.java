import java.math.BigInteger;
import java.util.ArrayList;
import java.util.List;

/** The edges of 'what is told of all': IMAGES, counts, the digest; promises 23 to 26; and the 512 calls of an object. */
public final class ToldEdgesTest {
    private static final int U = Edges.U, O = Edges.O, S = Edges.S, F = Edges.F, FREE = Edges.FREE;
    private static final Due due = new Due();
    private static final Edges edges = new Edges(due);

    public static void main(String[] args) {
        noneWasKept();
        anotherLakeSince();
        zeroToTenDebts();
        whatAnImageKeeps();
        whatItDoesNotKeep();
        theLatest();
        countNumbers();
        counts();
        digests();
        asksChangeNothing();
        calls512();
        apart();
        due.end();
    }

    private static void noneWasKept() {
        edges.refused("24 STATE: none was kept", NamesOnIce::new, NamesOnIce::restore, S);
        Edges.Make busyWithoutImage = () -> {
            NamesOnIce x = new NamesOnIce();
            x.write(0, 0, 0, 1, 5, 5);
            x.saw(0);
            Due.pass(x, "sc1");
            Due.put(x, "t1");
            return x;
        };
        edges.refused("24 STATE: none was kept, though much is there", busyWithoutImage, NamesOnIce::restore, S);
    }

    private static void anotherLakeSince() {
        for (int rows = 2; rows <= 4; rows++) {
            for (int wide = 2; wide <= 4; wide++) {
                int r = rows;
                int w = wide;
                Edges.Make make = () -> {
                    NamesOnIce x = Edges.busy();
                    x.lake(r, w);
                    x.write(0, 0, 0, 1, 5, 5);
                    return x;
                };
                edges.refused("24 STATE: there is another LAKE since: " + r + " " + w, make, NamesOnIce::restore, S);
                NamesOnIce x = make.made();
                due.is("23 an IMAGE of the new one", x.image(), 1);
                x.fish(0);
                due.is("24 from the new one", x.restore(), 1);
                due.is("24 its SQUARES", x.count(0), r * w);
                due.is("24 its ICE", x.square(0, 0), 10);
                due.is("24 its DEBT", x.about(0, 7), 2);
            }
        }
        NamesOnIce x = Edges.busy();
        for (int v : new int[] {Integer.MIN_VALUE, 1, 5, Integer.MAX_VALUE}) {
            x.lake(v, 3);
            x.lake(3, v);
        }
        due.is("24 a LAKE that is refused is none", x.restore(), 5);
    }

    private static void zeroToTenDebts() {
        for (int kept = 0; kept <= 10; kept++) {
            NamesOnIce x = new NamesOnIce();
            for (int i = 0; i < kept; i++) {
                x.write(i % 5, i % 9, i % 6, (i + 1) % 6, 10 + i, 5);
            }
            due.is("23 how many DEBTS", x.image(), kept);
            long digest = x.digest();
            for (int i = kept; i < 10; i++) {
                x.write(0, 8, 5, 4, 99, 9);
            }
            for (int i = 0; i < kept; i++) {
                x.saw(i);
            }
            due.is("24 how many DEBTS", x.restore(), kept);
            due.is("24 all of them, as they were", x.digest(), digest);
            due.is("(those that come since are gone by restore())", x.about(kept, 0), U);
            due.is("25 DEBTS", x.count(1), kept);
            due.is("25 THERE", x.count(2), kept);
            due.is("18 none that came since is laid", x.sledges(3, 200, 1), (1 << kept) - 1);
            due.is("22 none that came since outlasts COLD", x.winter(1, 0, 0), kept);
            for (int i = kept; i < 10; i++) {
                due.is("6 their numbers are free", x.write(4, 8, 5, 4, 98, 9), i);
                due.is("7 a new one", x.about(i, 4), 98);
            }
            due.is("6 FULL again", x.write(0, 8, 5, 4, 99, 9), F);
            due.is("24 once more", x.restore(), kept);
            due.is("24 as before, but for what sledges() did", x.digest(), digest + 1);
        }
    }

    /** ICE of each SQUARE, SNOW, each DEBT in each condition, DAYS: at their least and at their most. */
    private static void whatAnImageKeeps() {
        NamesOnIce x = new NamesOnIce();
        x.lake(4, 4);
        for (int s = 0; s < 16; s++) {
            x.ice(s, s == 15 ? 99 : s * 7 % 100);
        }
        x.write(3, 15, 0, 1, 1, 9);
        x.write(2, 15, 1, 2, 99, 9);
        x.write(1, 15, 2, 3, 50, 9);
        x.write(4, 14, 3, 4, 50, 9);
        x.saw(1);
        Due.pass(x, "t1");
        Due.pass(x, "ssssssssss");
        x.image();
        String told = Edges.trace(x);
        NamesOnIce y = new NamesOnIce();
        y.lake(4, 4);
        for (int s = 0; s < 16; s++) {
            y.ice(s, s == 15 ? 99 : s * 7 % 100);
        }
        y.write(3, 15, 0, 1, 1, 9);
        y.write(2, 15, 1, 2, 99, 9);
        y.write(1, 15, 2, 3, 50, 9);
        y.write(4, 14, 3, 4, 50, 9);
        y.saw(1);
        Due.pass(y, "t1");
        Due.pass(y, "ssssssssss");
        y.image();
        y.saw(2);
        y.saw(3);
        Due.pass(y, "t9t9wc9");
        for (int s = 0; s < 16; s++) {
            y.fish(s);
        }
        y.write(0, 0, 0, 1, 1, 1);
        due.is("24 It goes on from the IMAGE", y.restore(), 4);
        due.is("An IMAGE keeps ICE, SNOW, DEBTS, DAYS that have gone", Edges.trace(y).equals(told) ? 1 : 0, 1);
    }

    private static void whatItDoesNotKeep() {
        NamesOnIce x = new NamesOnIce();
        Due.put(x, "c1");
        x.sledges(1, 1, 0);
        x.image();
        Due.put(x, "t2sw");
        x.sledges(1, 1, 0);
        x.restore();
        due.is("24 letters stay as they are", x.count(4), 6);
        due.is("24 how often sledges() was done stays", x.count(5), 2);
        x.blank();
        x.restore();
        due.is("24 no letters come back", x.count(4), 0);
        for (int i = 2; i < 20; i++) {
            x.restore();
            x.sledges(1, 1, 0);
        }
        x.restore();
        due.is("18 twenty times, whatever restore() does", x.sledges(1, 1, 0), S);
    }

    private static void theLatest() {
        NamesOnIce x = new NamesOnIce();
        for (int i = 0; i < 10; i++) {
            due.is("23 (one; the latest)", x.image(), i);
            x.write(0, 0, 0, 1, 1, 1);
        }
        due.is("24 the latest", x.restore(), 9);
        due.is("24 the latest again", x.restore(), 9);
        x.fish(0);
        due.is("23 an IMAGE of those GONE", x.image(), 9);
        due.is("24 they are GONE", x.restore(), 9);
        due.is("25 none is THERE", x.count(2), 0);
        x.ice(0, 20);
        due.is("24 ICE is as in the IMAGE", x.restore() + x.square(0, 0), 9);
    }

    private static void countNumbers() {
        edges.grid("25 OUTSIDE", Edges::busy, new int[][] {Edges.span(0, 5)},
                (x, v) -> x.count(v[0]), v -> Edges.in(v[0], 0, 5) ? FREE : O);
    }

    private static void counts() {
        int[] ofNew = {9, 0, 0, 0, 0, 0};
        int[] ofBusy = {9, 6, 5, 2, 4, 1};
        int[] ofFull = {9, 10, 9, 0, 24, 20};
        for (int what = 0; what <= 5; what++) {
            due.is("1 A LAKE of 3 ROWS of 3 SQUARES: count " + what, new NamesOnIce().count(what), ofNew[what]);
            due.is("25 busy: count " + what, Edges.busy().count(what), ofBusy[what]);
            due.is("25 full: count " + what, Edges.full().count(what), ofFull[what]);
        }
    }

    /** Without a wrap, by great numbers; cut to a long at the very end. */
    private static long digestOf(NamesOnIce x, String page) {
        List<Integer> all = new ArrayList<>();
        int squares = x.count(0);
        int debts = x.count(1);
        for (int s = 0; s < squares; s++) {
            for (int what = 0; what < 4; what++) {
                all.add(x.square(s, what));
            }
        }
        for (int debt = 0; debt < debts; debt++) {
            for (int what = 0; what < 8; what++) {
                all.add(x.about(debt, what));
            }
        }
        for (int p = 0; p < 6; p++) {
            all.add(x.rest(p));
        }
        all.add(x.settled(0));
        all.add(x.settled(1));
        all.add(x.skate(0, squares - 1, 0));
        all.add(x.skate(0, squares - 1, 1));
        for (int i = 0; i < page.length(); i++) {
            all.add((int) page.charAt(i));
        }
        for (int what = 0; what < 6; what++) {
            all.add(x.count(what));
        }
        BigInteger h = BigInteger.valueOf(617);
        for (int v : all) {
            h = h.multiply(BigInteger.valueOf(31)).add(BigInteger.valueOf(v));
        }
        return h.longValue();
    }

    private static void digests() {
        String says = "26 31 times h, and it (as longs, wrapping)";
        due.is(says + ": busy", Edges.busy().digest(), digestOf(Edges.busy(), "c2t1"));
        due.is(says + ": full", Edges.full().digest(), digestOf(Edges.full(), "c1c1c1c1c1c1c1c1c1c1c1c1"));
        due.is(says + ": without DAYS", Edges.busyWithoutDays().digest(), digestOf(Edges.busyWithoutDays(), "c2t1c"));
        for (int rows = 2; rows <= 4; rows++) {
            for (int wide = 2; wide <= 4; wide++) {
                NamesOnIce x = Edges.full();
                x.lake(rows, wide);
                x.blank();
                due.is(says + ": the least", x.digest(), digestOf(x, ""));
                for (int i = 0; i < 10; i++) {
                    x.write(i % 5, 0, i % 6, (i + 2) % 6, 99 - i, 5);
                }
                StringBuilder page = new StringBuilder();
                for (int i = 0; i < 24; i++) {
                    page.append((char) (i % 2 == 0 ? 126 : i));
                }
                Due.put(x, page.toString());
                due.is(says + ": the most", x.digest(), digestOf(x, page.toString()));
                x.fish(rows * wide - 1);
                due.is(says + ": no way is " + NamesOnIce.NONE, x.digest(), digestOf(x, page.toString()));
                due.is("26 twice", x.digest(), x.digest());
            }
        }
    }

    /** No call that only asks leaves a trace. */
    private static void asksChangeNothing() {
        Edges.Call[] asks = {
            x -> x.square(0, 0), x -> x.square(8, 3), x -> x.about(0, 7), x -> x.as(4, 2), x -> x.as(0, 2),
            NamesOnIce::fault, x -> x.needed(0, 0), x -> x.needed(4, 7), x -> x.bears(0), x -> x.bears(7),
            x -> x.owes(0, 1, true), x -> x.owes(0, 1, false), x -> x.rest(0), x -> x.settled(0), x -> x.settled(1),
            x -> x.skate(0, 8, 0), x -> x.skate(0, 7, 1), x -> x.odds(0, 9, 5, 1, 0), x -> x.odds(2, 9, 5, 1, 1),
            x -> x.winter(60, 3, 0), x -> x.winter(1, 0, 1), x -> x.count(0), x -> x.count(5), NamesOnIce::digest,
            x -> x.letters(0)};
        String untouched = Edges.trace(Edges.busy());
        for (int i = 0; i < asks.length; i++) {
            NamesOnIce x = Edges.busy();
            asks[i].on(x);
            due.is("ask " + i + " changes nothing", Edges.trace(x).equals(untouched) ? 1 : 0, 1);
        }
        NamesOnIce x = Edges.busy();
        long before = x.digest();
        x.image();
        due.is("23 an IMAGE changes nothing that is told", x.digest(), before);
    }

    private static void calls512() {
        NamesOnIce x = new NamesOnIce();
        x.lake(4, 4);
        for (int i = 0; i < 170; i++) {
            x.letters(Due.word("swswswsw"));
            x.letters(Due.word("swsw"));
            due.is("for at most 512 calls: days", x.days(), 0);
        }
        due.is("the 512th call", x.count(3), 2040);
        NamesOnIce y = new NamesOnIce();
        for (int i = 0; i < 511; i++) {
            y.write(i % 5, i % 9, i % 6, (i + 1) % 6, 1 + i % 99, 1 + i % 9);
        }
        due.is("the 512th call: FULL", y.write(0, 0, 0, 1, 1, 1), F);
    }

    /** What is done to one object is not told by another one. */
    private static void apart() {
        NamesOnIce x = new NamesOnIce();
        String alone = Edges.trace(new NamesOnIce());
        NamesOnIce y = Edges.full();
        y.lake(4, 4);
        y.image();
        y.winter(60, 1, 0);
        due.is("13 the same calls always give the same answers", Edges.trace(x).equals(alone) ? 1 : 0, 1);
    }
}
