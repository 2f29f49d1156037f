/** Promises 16 to 20: owes, rest, sledges, settled, skate. */
public final class OwesTest {
    private static final int N = NamesOnIce.NONE, U = NamesOnIce.UNKNOWN, O = NamesOnIce.OUTSIDE,
            S = NamesOnIce.STATE;
    private static final Due due = new Due();

    public static void main(String[] args) {
        owes();
        rest();
        sledges();
        sledgesOfLikeWorth();
        sledgesRefused();
        settled();
        skate();
        skateRound();
        due.end();
    }

    private static void owes() {
        NamesOnIce x = new NamesOnIce();
        x.write(0, 0, 0, 1, 10, 9);
        x.write(4, 1, 0, 1, 20, 9);
        x.write(1, 2, 1, 0, 40, 5);
        x.write(3, 2, 0, 1, 80, 5);
        due.is("16 all", x.owes(0, 1, false), 111);
        due.is("16 read", x.owes(0, 1, true), 111);
        due.is("16 the other way", x.owes(1, 0, false), 40);
        due.is("16 nothing", x.owes(2, 5, false), 0);
        x.saw(0);
        Due.pass(x, "s");
        due.is("16 hidden ones", x.owes(0, 1, false), 111);
        due.is("16 only the saved one can be read", x.owes(0, 1, true), 10);
        Due.pass(x, "t1");
        due.is("16 breath is gone, ice is less", x.owes(0, 1, false), 30);
        due.is("16 snow is gone", x.owes(0, 1, true), 30);
        int[] noPerson = {-1, 6, Integer.MIN_VALUE, Integer.MAX_VALUE};
        for (int p : noPerson) {
            due.is("16 unknown a", x.owes(p, 1, false), U);
            due.is("16 unknown b", x.owes(1, p, true), U);
        }
        due.is("16 the same", x.owes(3, 3, false), U);
    }

    private static void rest() {
        NamesOnIce x = new NamesOnIce();
        x.write(0, 0, 0, 1, 10, 9);
        x.write(2, 1, 2, 1, 20, 9);
        x.write(0, 2, 1, 5, 99, 9);
        int[] rests = {-10, -68, -21, 0, 0, 99};
        for (int p = 0; p < 6; p++) {
            due.is("17 rest of " + p, x.rest(p), rests[p]);
        }
        Due.pass(x, "s");
        due.is("17 hidden ones count", x.rest(1), -68);
        x.saw(2);
        x.fish(0);
        x.fish(2);
        due.is("17 saved ones count, gone ones do not", x.rest(1), -78);
        due.is("17 a gone one", x.rest(0), 0);
        due.is("17 unknown below", x.rest(-1), -100001);
        due.is("17 unknown above", x.rest(6), -100001);
    }

    private static void sledges() {
        NamesOnIce x = new NamesOnIce();
        due.is("18 nothing: worth", x.sledges(1, 200, 0), 0);
        due.is("18 nothing: bits", x.sledges(1, 200, 1), 0);
        x.ice(0, 6);
        x.ice(1, 5);
        x.ice(2, 4);
        x.write(0, 0, 0, 1, 30, 1);
        x.write(0, 1, 0, 1, 20, 1);
        x.write(0, 2, 0, 1, 19, 1);
        x.write(0, 1, 0, 1, 20, 1);
        x.write(0, 3, 0, 1, 90, 1);
        due.is("18 too light a sledge", x.sledges(3, 3, 0), 0);
        due.is("18 just the least", x.sledges(3, 4, 1), 4);
        due.is("18 no block is parted: 5 5", x.sledges(2, 5, 1), 10);
        due.is("18 10, 6+4", x.sledges(2, 10, 0), 90 + 30 + 19);
        due.is("18 its bits", x.sledges(2, 10, 1), 16 + 1 + 4);
        due.is("18 6+4, 5+5, 10", x.sledges(3, 10, 0), 179);
        due.is("18 a sledge bears no more than told", x.sledges(3, 9, 0), 89);
        due.is("18 one for all", x.sledges(1, 30, 1), 31);
        due.is("18 one inch less", x.sledges(1, 29, 0), 160);
        x.saw(4);
        due.is("18 saved ones are not laid", x.sledges(1, 200, 1), 15);
        Due.pass(x, "s");
        due.is("18 hidden ones are", x.sledges(1, 200, 1), 15);
        x.fish(1);
        due.is("18 gone ones are not", x.sledges(1, 200, 1), 5);
        due.is("18 nothing is sawn by it", x.square(0, 2), 1);
        due.is("18 none that it bears", x.sledges(1, 3, 1), 0);
        due.is("18 done", x.count(5), 15);
    }

    private static void sledgesOfLikeWorth() {
        NamesOnIce x = new NamesOnIce();
        x.write(0, 0, 0, 1, 10, 1);
        x.write(0, 1, 0, 1, 10, 1);
        x.write(0, 2, 0, 1, 20, 1);
        x.write(0, 3, 0, 1, 20, 1);
        due.is("18 least bits", x.sledges(1, 10, 1), 4);
        x.ice(8, 5);
        x.ice(7, 5);
        x.write(0, 8, 0, 1, 15, 1);
        x.write(0, 7, 0, 1, 5, 1);
        due.is("18 the fewest", x.sledges(1, 10, 1), 4);
        due.is("18 worth", x.sledges(1, 10, 0), 20);
        x.ice(6, 5);
        x.write(4, 5, 0, 1, 20, 1);
        due.is("18 a straw is worth more by its ice", x.sledges(1, 10, 1), 64);
        due.is("18 by worth", x.sledges(1, 10, 0), 21);
        NamesOnIce y = new NamesOnIce();
        y.ice(0, 5);
        y.ice(1, 5);
        y.write(0, 0, 0, 1, 15, 1);
        y.write(0, 1, 0, 1, 5, 1);
        y.write(0, 2, 0, 1, 20, 1);
        due.is("18 one block rather than two of less bits", y.sledges(1, 10, 1), 4);
    }

    private static void sledgesRefused() {
        NamesOnIce x = new NamesOnIce();
        due.is("18 sledges below", x.sledges(0, 5, 0), O);
        due.is("18 sledges above", x.sledges(4, 5, 0), O);
        due.is("18 bears below", x.sledges(1, 0, 0), O);
        due.is("18 bears above", x.sledges(1, 201, 0), O);
        due.is("18 what below", x.sledges(1, 5, -1), O);
        due.is("18 what above", x.sledges(1, 5, 2), O);
        due.is("18 not done", x.count(5), 0);
        x.image();
        for (int i = 0; i < 20; i++) {
            due.is("18 twenty times", x.sledges(1 + i % 3, 200, i % 2), 0);
        }
        due.is("18 once more", x.sledges(1, 5, 0), S);
        due.is("18 outside before state", x.sledges(1, 5, 2), O);
        due.is("18 done", x.count(5), 20);
        x.restore();
        due.is("18 nor behind restore()", x.sledges(1, 5, 0), S);
        x.lake(2, 2);
        due.is("18 nor on another lake", x.sledges(1, 5, 0), S);
    }

    private static void settled() {
        NamesOnIce x = new NamesOnIce();
        due.is("19 nothing to pay", x.settled(0), 0);
        due.is("19 each alone", x.settled(1), 6);
        x.write(0, 0, 0, 1, 10, 9);
        due.is("19 one", x.settled(0), 1);
        due.is("19 five groups", x.settled(1), 5);
        x.write(0, 0, 1, 2, 10, 9);
        due.is("19 one goes between", x.settled(0), 1);
        x.write(0, 0, 3, 4, 7, 9);
        due.is("19 two pairs", x.settled(0), 2);
        due.is("19 four groups", x.settled(1), 4);
        x.write(0, 0, 2, 0, 10, 9);
        due.is("19 a ring is nothing", x.settled(0), 1);
        x.write(0, 0, 0, 1, 5, 9);
        x.write(0, 0, 5, 0, 11, 9);
        x.write(0, 0, 2, 0, 1, 9);
        due.is("19 rests 7 5 -1 -7 7 -11", x.settled(0), 4);
        due.is("19 two groups", x.settled(1), 2);
        Due.pass(x, "s");
        due.is("19 hidden ones count", x.settled(0), 4);
        x.saw(2);
        x.fish(0);
        due.is("19 the saved one alone", x.settled(0), 1);
        due.is("19 outside below", x.settled(-1), O);
        due.is("19 outside above", x.settled(2), O);
        NamesOnIce y = new NamesOnIce();
        y.write(0, 0, 0, 5, 1, 1);
        y.write(0, 0, 1, 5, 2, 1);
        y.write(0, 0, 2, 5, 4, 1);
        y.write(0, 0, 3, 5, 8, 1);
        y.write(0, 0, 4, 5, 16, 1);
        int[] sums = {1, 2, 4, 8, 16};
        for (int p = 0; p < 5; p++) {
            NamesOnIce z = new NamesOnIce();
            z.write(0, 0, p, 5, sums[p], 1);
            z.write(0, 0, (p + 1) % 5, 5, sums[p], 1);
            due.is("19 two pay", z.settled(0), 2);
            due.is("19 three alone, three together", z.settled(1), 4);
        }
        due.is("19 five payments", y.settled(0), 5);
        due.is("19 one group", y.settled(1), 1);
    }

    private static void skate() {
        NamesOnIce x = new NamesOnIce();
        x.write(0, 0, 0, 1, 1, 9);
        x.write(2, 1, 0, 1, 9, 9);
        x.write(0, 3, 0, 1, 2, 9);
        x.write(0, 3, 0, 1, 2, 9);
        x.write(0, 4, 0, 1, 30, 9);
        x.write(0, 8, 0, 1, 50, 9);
        x.write(0, 5, 0, 1, 5, 9);
        due.is("20 steps", x.skate(0, 8, 0), 4);
        due.is("20 worth", x.skate(0, 8, 1), 1 + 10 + 30 + 5 + 50);
        due.is("20 back", x.skate(8, 0, 1), 1 + 10 + 30 + 5 + 50);
        due.is("20 no way aside", x.skate(0, 2, 1), 11);
        due.is("20 stays", x.skate(4, 4, 0), 0);
        due.is("20 stays and reads", x.skate(4, 4, 1), 30);
        x.saw(4);
        due.is("20 saved ones are not read", x.skate(0, 8, 1), 66);
        Due.pass(x, "s");
        due.is("20 hidden ones are not read", x.skate(0, 8, 1), 0);
        due.is("20 snow is no hindrance", x.skate(0, 8, 0), 4);
        Due.pass(x, "w");
        x.fish(1);
        due.is("20 round the hole", x.skate(0, 8, 1), 1 + 4 + 5 + 50);
        x.fish(3);
        due.is("20 no way", x.skate(0, 8, 0), N);
        due.is("20 no worth", x.skate(0, 8, 1), N);
        due.is("20 from a hole", x.skate(1, 2, 0), N);
        due.is("20 into a hole", x.skate(2, 1, 0), N);
        due.is("20 in a hole", x.skate(1, 1, 0), N);
        due.is("20 unknown a", x.skate(-1, 0, 0), U);
        due.is("20 unknown b", x.skate(0, 9, 0), U);
        due.is("20 unknown first", x.skate(0, 9, 2), U);
        due.is("20 outside below", x.skate(0, 1, -1), O);
        due.is("20 outside above", x.skate(0, 1, 2), O);
    }

    private static void skateRound() {
        NamesOnIce x = new NamesOnIce();
        x.lake(4, 3);
        x.ice(1, 3);
        x.ice(4, 3);
        x.ice(7, 4);
        x.ice(8, 3);
        due.is("20 three inches do not bear", x.skate(0, 2, 0), N);
        due.is("20 four inches bear", x.skate(0, 7, 0), 3);
        x.ice(8, 4);
        due.is("20 the long way", x.skate(0, 2, 0), 6);
        x.write(0, 10, 0, 1, 99, 9);
        due.is("20 fewest steps before worth", x.skate(0, 2, 1), 0);
        x.lake(2, 4);
        due.is("20 no step over the edge", x.skate(3, 4, 0), 4);
    }
}
