/** Promises 1 to 5: a new object, lake, ice, square, fish. */
public final class LakeTest {
    private static final int U = NamesOnIce.UNKNOWN, O = NamesOnIce.OUTSIDE, S = NamesOnIce.STATE;
    private static final Due due = new Due();

    public static void main(String[] args) {
        newObject();
        lake();
        ice();
        square();
        fish();
        due.end();
    }

    private static void newObject() {
        NamesOnIce x = new NamesOnIce();
        due.is("1 squares", x.count(0), 9);
        for (int what = 1; what <= 5; what++) {
            due.is("1 count " + what, x.count(what), 0);
        }
        for (int i = 0; i < 9; i++) {
            due.is("1 ice", x.square(i, 0), 10);
            due.is("1 snow", x.square(i, 1), 0);
        }
        due.is("1 three rows", x.skate(0, 6, 0), 2);
        due.is("1 three wide", x.skate(0, 2, 0), 2);
        due.is("1 rows end", x.skate(2, 3, 0), 3);
        due.is("1 no image", x.restore(), S);
    }

    private static void lake() {
        NamesOnIce x = new NamesOnIce();
        for (int rows = 2; rows <= 4; rows++) {
            for (int wide = 2; wide <= 4; wide++) {
                due.is("2 lake", x.lake(rows, wide), rows * wide);
                due.is("2 count", x.count(0), rows * wide);
                due.is("2 last square", x.square(rows * wide - 1, 0), 10);
                due.is("2 behind the last", x.square(rows * wide, 0), U);
                due.is("2 down", x.skate(0, wide, 0), 1);
                due.is("2 way across", x.skate(0, rows * wide - 1, 0), rows + wide - 2);
            }
        }
        int[] wrong = {Integer.MIN_VALUE, -1, 0, 1, 5, Integer.MAX_VALUE};
        x.lake(3, 2);
        x.write(0, 0, 0, 1, 5, 2);
        for (int w : wrong) {
            due.is("2 rows outside", x.lake(w, 3), O);
            due.is("2 wide outside", x.lake(3, w), O);
        }
        due.is("2 a refusal changes nothing", x.count(0), 6);
        due.is("2 nor debts", x.count(1), 1);
        x.ice(5, 33);
        Due.pass(x, "c1s");
        Due.put(x, "w");
        x.sledges(1, 10, 0);
        x.lake(3, 2);
        due.is("2 debts are gone", x.count(1), 0);
        due.is("2 days are gone", x.count(3), 0);
        due.is("2 snow is gone", x.square(0, 1), 0);
        due.is("2 ice is 10", x.square(5, 0), 10);
        due.is("2 the page stays", x.count(4), 1);
        due.is("2 what sledges() did stays", x.count(5), 1);
        due.is("2 numbers begin anew", x.write(0, 0, 0, 1, 5, 2), 0);
        nothingOfTheOldLake();
    }

    private static void nothingOfTheOldLake() {
        NamesOnIce x = new NamesOnIce();
        x.write(2, 0, 0, 1, 50, 2);
        x.write(0, 0, 0, 1, 50, 2);
        x.saw(0);
        x.lake(2, 2);
        due.is("2 owes", x.owes(0, 1, false), 0);
        due.is("2 rest", x.rest(1), 0);
        due.is("2 there", x.count(2), 0);
        due.is("2 in its square", x.square(0, 2), 0);
        due.is("2 read", x.skate(0, 0, 1), 0);
        due.is("2 sledges", x.sledges(3, 200, 0), 0);
        due.is("2 fish", x.fish(0), 0);
        due.is("2 as many days", Due.pass(x, "c9"), 0);
        x.write(2, 1, 2, 3, 50, 2);
        due.is("2 a new debt is not saved", x.about(0, 7), 2);
        due.is("2 nor is its worth the old one", x.about(0, 6), 51);
        due.is("2 days", Due.pass(x, "t2"), 1);
    }

    private static void ice() {
        NamesOnIce x = new NamesOnIce();
        due.is("3 what it was", x.ice(4, 0), 10);
        due.is("3 from 0", x.ice(4, 99), 0);
        due.is("3 from 99", x.ice(4, 7), 99);
        due.is("3 it is", x.square(4, 0), 7);
        due.is("3 others stay", x.square(5, 0), 10);
        due.is("3 unknown below", x.ice(-1, 5), U);
        due.is("3 unknown above", x.ice(9, 5), U);
        due.is("3 unknown first", x.ice(9, 100), U);
        due.is("3 outside below", x.ice(4, -1), O);
        due.is("3 outside above", x.ice(4, 100), O);
        x.write(0, 4, 0, 1, 5, 1);
        due.is("3 a debt is there", x.ice(4, 20), S);
        due.is("3 outside before state", x.ice(4, 100), O);
        due.is("3 a refusal changes nothing", x.square(4, 0), 7);
        due.is("3 another square is free", x.ice(3, 20), 10);
        x.saw(0);
        due.is("3 it is saved", x.ice(4, 20), 7);
        x.write(0, 4, 0, 1, 5, 1);
        Due.pass(x, "t1");
        due.is("3 it is gone", x.ice(4, 50), 19);
        x.write(0, 4, 0, 1, 5, 2);
        Due.pass(x, "s");
        due.is("3 a hidden one is there", x.ice(4, 50), S);
    }

    private static void square() {
        NamesOnIce x = new NamesOnIce();
        x.ice(0, 3);
        x.ice(1, 4);
        due.is("4 ice", x.square(0, 0), 3);
        due.is("4 three inches do not bear", x.square(0, 3), 0);
        due.is("4 four inches bear", x.square(1, 3), 1);
        x.write(0, 2, 0, 1, 5, 1);
        x.write(3, 2, 0, 1, 5, 1);
        x.write(4, 2, 0, 1, 5, 9);
        x.write(0, 3, 0, 1, 5, 9);
        due.is("4 debts", x.square(2, 2), 3);
        due.is("4 debts elsewhere", x.square(3, 2), 1);
        due.is("4 no debts", x.square(0, 2), 0);
        Due.pass(x, "sss");
        due.is("4 snow", x.square(0, 1), 3);
        due.is("4 snow in all", x.square(8, 1), 3);
        due.is("4 hidden ones count", x.square(2, 2), 3);
        Due.pass(x, "t1");
        due.is("4 gone ones do not", x.square(2, 2), 1);
        x.saw(2);
        due.is("4 saved ones do not", x.square(2, 2), 0);
        due.is("4 unknown below", x.square(-1, 0), U);
        due.is("4 unknown above", x.square(9, 0), U);
        due.is("4 unknown first", x.square(9, 9), U);
        due.is("4 outside below", x.square(0, -1), O);
        due.is("4 outside above", x.square(0, 4), O);
    }

    private static void fish() {
        NamesOnIce x = new NamesOnIce();
        x.write(0, 4, 0, 1, 5, 2);
        x.write(2, 4, 0, 1, 5, 2);
        x.write(1, 4, 0, 1, 5, 2);
        x.write(3, 4, 0, 1, 5, 2);
        x.write(0, 5, 0, 1, 5, 2);
        x.saw(1);
        Due.pass(x, "t1s");
        due.is("5 unknown below", x.fish(-1), U);
        due.is("5 unknown above", x.fish(9), U);
        due.is("5 gone by it", x.fish(4), 2);
        due.is("5 its ice", x.square(4, 0), 0);
        due.is("5 other ice", x.square(5, 0), 9);
        due.is("5 gone", x.about(0, 7), 0);
        due.is("5 gone has no cut", x.about(2, 5), 0);
        due.is("5 saved", x.about(1, 7), 3);
        due.is("5 elsewhere", x.about(4, 7), 1);
        due.is("5 snow stays", x.square(4, 1), 1);
        due.is("5 no ice", x.fish(4), S);
        Due.pass(x, "c9");
        due.is("5 it freezes again", x.square(4, 0), 9);
        due.is("5 gone comes no more", x.about(0, 7), 0);
        due.is("5 nothing is gone", x.fish(4), 0);
    }
}
