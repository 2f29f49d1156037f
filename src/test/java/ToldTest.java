/** Promises 23 to 26: image, restore, count, digest. */
public final class ToldTest {
    private static final int O = NamesOnIce.OUTSIDE, S = NamesOnIce.STATE;
    private static final Due due = new Due();

    public static void main(String[] args) {
        image();
        imageOfSaved();
        imageOfAnotherLake();
        count();
        digest();
        constants();
        due.end();
    }

    private static void image() {
        NamesOnIce x = new NamesOnIce();
        due.is("24 none was kept", x.restore(), S);
        due.is("23 no debts", x.image(), 0);
        x.write(2, 0, 0, 1, 5, 5);
        x.write(0, 1, 0, 1, 5, 5);
        x.ice(2, 40);
        Due.pass(x, "sc1");
        due.is("23 two debts", x.image(), 2);
        long before = x.digest();
        x.saw(0);
        x.write(0, 3, 0, 1, 5, 5);
        x.fish(1);
        x.ice(2, 50);
        Due.pass(x, "t2ss");
        due.is("24 two debts", x.restore(), 2);
        due.is("24 all is as it was", x.digest(), before);
        due.is("24 not saved", x.about(0, 7), 1);
        due.is("24 not gone", x.about(1, 5), 5);
        due.is("24 the new one is gone", x.about(2, 0), NamesOnIce.UNKNOWN);
        due.is("24 ice", x.square(2, 0), 41);
        due.is("24 snow", x.square(2, 1), 1);
        due.is("24 days", x.count(3), 2);
        x.fish(0);
        due.is("24 once more", x.restore(), 2);
        due.is("24 as it was", x.digest(), before);
        due.is("24 the next number", x.write(0, 3, 0, 1, 5, 5), 2);
        due.is("23 the latest", x.image(), 3);
        x.fish(3);
        due.is("24 from the latest", x.restore(), 3);
        due.is("24 there", x.about(2, 7), 1);
        Due.put(x, "abc");
        x.sledges(1, 10, 0);
        x.restore();
        due.is("24 the page stays", x.count(4), 3);
        due.is("24 what sledges() did stays", x.count(5), 1);
        x.saw(2);
        x.image();
        x.fish(3);
        x.restore();
        due.is("23 saved is kept", x.about(2, 7), 3);
        x.saw(0);
        x.image();
        x.lake(2, 2);
        due.is("24 another lake", x.restore(), S);
    }

    private static void imageOfSaved() {
        NamesOnIce x = new NamesOnIce();
        x.ice(0, 40);
        x.write(4, 0, 0, 1, 5, 5);
        x.write(0, 0, 0, 1, 5, 5);
        x.saw(0);
        x.image();
        x.lake(2, 2);
        x.image();
        x.write(0, 0, 2, 3, 5, 5);
        x.restore();
        x.ice(1, 40);
        x.write(4, 1, 0, 1, 5, 5);
        due.is("24 written anew: not saved", x.about(0, 7), 2);
        x.saw(0);
        x.ice(1, 20);
        x.image();
        x.restore();
        due.is("24 worth as when it was saved", x.about(0, 6), 9);
        x.restore();
        x.write(0, 1, 0, 1, 7, 5);
        x.restore();
        due.is("24 what came since is not owed", x.owes(0, 1, false), 9);
        due.is("24 nor read", x.skate(1, 1, 1), 0);
        due.is("24 nor fished", x.fish(1), 0);
    }

    private static void imageOfAnotherLake() {
        NamesOnIce x = new NamesOnIce();
        x.write(0, 1, 0, 1, 5, 5);
        x.image();
        x.lake(5, 5);
        due.is("24 a refused lake is none", x.restore(), 1);
        x.lake(3, 3);
        due.is("24 another lake", x.restore(), S);
        due.is("24 nothing comes back", x.count(1), 0);
        due.is("23 of the new lake", x.image(), 0);
        x.write(0, 1, 0, 1, 5, 5);
        due.is("24 of the new lake", x.restore(), 0);
        due.is("24 its debts", x.count(1), 0);
    }

    private static void count() {
        NamesOnIce x = new NamesOnIce();
        x.lake(2, 3);
        x.write(3, 0, 0, 1, 5, 5);
        x.write(0, 0, 0, 1, 5, 5);
        x.write(0, 0, 0, 1, 5, 1);
        x.saw(2);
        Due.pass(x, "st1s");
        Due.put(x, "abcd");
        x.sledges(1, 1, 1);
        x.sledges(1, 1, 1);
        int[] told = {6, 3, 2, 3, 4, 2};
        for (int what = 0; what <= 5; what++) {
            due.is("25 count " + what, x.count(what), told[what]);
        }
        due.is("25 outside below", x.count(-1), O);
        due.is("25 outside above", x.count(6), O);
    }

    private static long digestOf(NamesOnIce x, String page) {
        long h = 617;
        int squares = x.count(0);
        int debts = x.count(1);
        for (int i = 0; i < squares; i++) {
            for (int what = 0; what < 4; what++) {
                h = 31 * h + x.square(i, what);
            }
        }
        for (int i = 0; i < debts; i++) {
            for (int what = 0; what < 8; what++) {
                h = 31 * h + x.about(i, what);
            }
        }
        for (int p = 0; p < 6; p++) {
            h = 31 * h + x.rest(p);
        }
        h = 31 * (31 * h + x.settled(0)) + x.settled(1);
        h = 31 * (31 * h + x.skate(0, squares - 1, 0)) + x.skate(0, squares - 1, 1);
        for (int i = 0; i < page.length(); i++) {
            h = 31 * h + page.charAt(i);
        }
        for (int what = 0; what < 6; what++) {
            h = 31 * h + x.count(what);
        }
        return h;
    }

    private static void digest() {
        NamesOnIce x = new NamesOnIce();
        due.is("26 new", x.digest(), digestOf(x, ""));
        x.lake(4, 2);
        x.write(2, 0, 0, 1, 50, 5);
        x.write(4, 3, 2, 4, 51, 9);
        x.saw(0);
        Due.pass(x, "st1s");
        due.is("26 debts", x.digest(), digestOf(x, ""));
        x.sledges(2, 9, 0);
        due.is("26 sledges", x.digest(), digestOf(x, ""));
        Due.put(x, "t1c");
        due.is("26 letters", x.digest(), digestOf(x, "t1c"));
        due.is("26 changes nothing", x.digest(), digestOf(x, "t1c"));
        x.blank();
        Due.pass(x, "w");
        x.write(0, 0, 0, 1, 40, 5);
        Due.put(x, "t1c");
        due.is("26 what is read in square 0", x.digest(), digestOf(x, "t1c"));
        x.fish(1);
        x.fish(2);
        due.is("26 no way", x.digest(), digestOf(x, "t1c"));
        NamesOnIce y = new NamesOnIce();
        y.lake(2, 2);
        y.fish(3);
        due.is("26 a hole", y.digest(), digestOf(y, ""));
    }

    private static void constants() {
        due.is("NONE", NamesOnIce.NONE, -1);
        due.is("UNKNOWN", NamesOnIce.UNKNOWN, -101);
        due.is("OUTSIDE", NamesOnIce.OUTSIDE, -102);
        due.is("STATE", NamesOnIce.STATE, -103);
        due.is("FULL", NamesOnIce.FULL, -104);
    }
}
