/** Promises 10 to 15: letters, blank, fault, days, needed, bears. */
public final class DaysTest {
    private static final int N = NamesOnIce.NONE, U = NamesOnIce.UNKNOWN, O = NamesOnIce.OUTSIDE,
            S = NamesOnIce.STATE, F = NamesOnIce.FULL;
    private static final Due due = new Due();

    public static void main(String[] args) {
        letters();
        blank();
        fault();
        days();
        thaws();
        daysRefused();
        needed();
        bears();
        shorterPage();
        due.end();
    }

    private static void letters() {
        NamesOnIce x = new NamesOnIce();
        due.is("10 none", x.letters(0), 0);
        due.is("10 one", x.letters('c'), 1);
        due.is("10 eight", x.letters(Due.word("abcdefgh")), 9);
        due.is("10 126", x.letters(126), 10);
        due.is("10 code 1", x.letters(1), 11);
        due.is("10 127", x.letters(127), O);
        due.is("10 128", x.letters(128), O);
        due.is("10 255", x.letters(-1), O);
        due.is("10 highest byte 255", x.letters(0xffL << 56), O);
        due.is("10 127 behind letters", x.letters(Due.word("abc") | 127L << 24), O);
        due.is("10 behind a 0", x.letters('c' | (long) 'd' << 16), O);
        due.is("10 behind a 0 at first", x.letters((long) 'c' << 8), O);
        due.is("10 refusals change nothing", x.count(4), 11);
        x.letters(Due.word("abcdefgh"));
        due.is("10 nineteen", x.count(4), 19);
        due.is("10 above 24", x.letters(Due.word("abcdef")), F);
        due.is("10 outside before full", x.letters(-1), O);
        due.is("10 full changes nothing", x.count(4), 19);
        due.is("10 up to 24", x.letters(Due.word("abcde")), 24);
        due.is("10 none when full", x.letters(0), 24);
        due.is("10 one when full", x.letters('c'), F);
        x.blank();
        x.letters(Due.word("c12"));
        due.is("10 the lowest byte is first", x.fault(), 2);
    }

    private static void blank() {
        NamesOnIce x = new NamesOnIce();
        due.is("11 empty", x.blank(), 0);
        Due.put(x, "abcdefghijk");
        due.is("11 it had", x.blank(), 11);
        due.is("11 is empty", x.count(4), 0);
        due.is("11 again", x.blank(), 0);
        due.is("11 new letters", Due.put(x, "s"), 1);
        due.is("11 are read alone", x.days(), 0);
    }

    private static void faultOf(String text, int want) {
        NamesOnIce x = new NamesOnIce();
        Due.put(x, text);
        due.is("12 fault of " + text, x.fault(), want);
        due.is("12 the page stays", x.count(4), text.length());
    }

    private static void fault() {
        faultOf("", 0);
        faultOf("s", 1);
        faultOf("c", 1);
        faultOf("c1", 2);
        faultOf("c9t1sw", 6);
        faultOf("c0", 1);
        faultOf("cc", 1);
        faultOf("ts", 1);
        faultOf("t:", 1);
        faultOf("t/", 1);
        faultOf("x", 0);
        faultOf("1", 0);
        faultOf("C1", 0);
        faultOf("sS", 1);
        faultOf("s1", 1);
        faultOf("w t1", 1);
        faultOf("c1c2c", 5);
        faultOf("c12", 2);
        faultOf("ssssssssssss", 12);
        faultOf("sssssssssssss", 12);
        faultOf("sssssssssssst", 12);
        faultOf("ssssssssssst", 12);
        faultOf("ssssssssssst5", 13);
        faultOf("ssssssssssst5w", 13);
        faultOf("c1c1c1c1c1c1c1c1c1c1c1c1", 24);
        faultOf("c1c1c1c1c1c1c1c1c1c1c1cc", 23);
        faultOf("sx1y", 1);
    }

    private static void days() {
        NamesOnIce x = new NamesOnIce();
        x.ice(0, 95);
        x.ice(1, 0);
        due.is("13 cold", Due.pass(x, "c4"), 0);
        due.is("13 ice is more", x.square(0, 0), 99);
        due.is("13 a hole freezes", x.square(1, 0), 4);
        due.is("13 the page is empty", x.count(4), 0);
        due.is("13 a day has gone", x.count(3), 1);
        Due.pass(x, "c9c9");
        due.is("13 99 at most", x.square(0, 0), 99);
        due.is("13 more", x.square(1, 0), 22);
        due.is("13 three days", x.count(3), 3);
        Due.pass(x, "ssssssssssss");
        due.is("13 snow 9 at most", x.square(5, 1), 9);
        due.is("13 twelve more", x.count(3), 15);
        Due.pass(x, "w");
        due.is("13 wind", x.square(5, 1), 0);
        due.is("13 wind leaves ice", x.square(1, 0), 22);
        Due.pass(x, "sst3");
        due.is("13 a thaw takes snow", x.square(5, 1), 0);
        due.is("13 and ice, whatever snow was there", x.square(1, 0), 19);
        Due.pass(x, "t9t9t9s");
        due.is("13 0 at least", x.square(1, 0), 0);
        due.is("13 snow behind it", x.square(1, 1), 1);
        Due.pass(x, "c2");
        due.is("13 cold leaves snow", x.square(1, 1), 1);
    }

    private static void thaws() {
        NamesOnIce x = new NamesOnIce();
        x.ice(0, 60);
        x.write(0, 0, 0, 1, 5, 6);
        x.write(1, 0, 0, 1, 5, 6);
        x.write(2, 0, 0, 1, 5, 6);
        x.write(3, 0, 0, 1, 5, 6);
        x.write(4, 0, 0, 1, 5, 6);
        x.write(4, 1, 0, 1, 5, 9);
        x.write(0, 0, 0, 1, 5, 3);
        x.saw(6);
        due.is("13 a breath is not gone by cold, snow, wind", Due.pass(x, "c1sw"), 0);
        due.is("13 it is gone by a thaw", Due.pass(x, "t1"), 1);
        due.is("13 breath", x.about(3, 7), 0);
        due.is("13 debt", x.about(0, 5), 5);
        due.is("13 deep", x.about(1, 5), 11);
        due.is("13 pledge", x.about(2, 5), 5);
        due.is("13 straw by half, rounded up", x.about(4, 5), 5);
        due.is("13 saved", x.about(6, 5), 3);
        due.is("13 none is gone", Due.pass(x, "t4"), 0);
        due.is("13 straw by half", x.about(4, 5), 3);
        due.is("13 straw in thin ice", x.about(5, 5), 6);
        due.is("13 ice there", x.square(1, 0), 6);
        due.is("13 three are gone by their cut, one by its ice", Due.pass(x, "t1t5c9"), 4);
        due.is("13 gone by its ice, for ever", x.about(5, 7), 0);
        due.is("13 gone has no cut", x.about(5, 5), 0);
        due.is("13 deep is left", x.about(1, 5), 1);
        due.is("13 straw is gone", x.about(4, 7), 0);
        due.is("13 days", x.count(3), 8);
        due.is("13 those gone are not told again", Due.pass(x, "t9"), 1);
        due.is("13 saved for ever", x.about(6, 7), 3);
    }

    private static void daysRefused() {
        String[] none = {"", "c", "s1", "sc", "t0", "ws ", "sssssssssssss", "c1c1c1c1c1c1c1c1c1c1ssc"};
        for (String text : none) {
            NamesOnIce x = new NamesOnIce();
            Due.put(x, text);
            due.is("13 no days: " + text, x.days(), S);
            due.is("13 the page stays: " + text, x.count(4), text.length());
            due.is("13 no day has gone: " + text, x.count(3), 0);
            due.is("13 no snow: " + text, x.square(0, 1), 0);
            due.is("14 no days: " + text, x.needed(0, 0), S);
            due.is("15 no days: " + text, x.bears(0), S);
        }
        NamesOnIce x = new NamesOnIce();
        due.is("13 24 letters", Due.pass(x, "c1c1c1c1c1c1c1c1c1c1c1c1"), 0);
        due.is("13 12 inches", x.square(0, 0), 22);
    }

    private static void neededFor(String text, int ice, int[] want) {
        NamesOnIce x = new NamesOnIce();
        x.ice(4, ice);
        Due.put(x, text);
        for (int kind = 0; kind < 5; kind++) {
            due.is("14 " + text + " on " + ice + " kind " + kind, x.needed(kind, 4), want[kind]);
        }
        due.is("14 the page stays", x.count(4), text.length());
        due.is("14 the ice stays", x.square(4, 0), ice);
    }

    private static void needed() {
        neededFor("s", 10, new int[] {1, 1, 1, 1, 1});
        neededFor("s", 1, new int[] {1, N, 1, 1, 1});
        neededFor("s", 0, new int[] {N, N, N, N, N});
        neededFor("c9", 0, new int[] {N, N, N, N, N});
        neededFor("t1", 10, new int[] {2, 1, 2, N, 2});
        neededFor("t4", 10, new int[] {5, 3, 5, N, 3});
        neededFor("t5", 10, new int[] {6, 3, 6, N, 4});
        neededFor("t5t3", 10, new int[] {9, 5, 9, N, 6});
        neededFor("t5t4", 10, new int[] {N, 5, N, N, 6});
        neededFor("t5t5", 10, new int[] {N, N, N, N, N});
        neededFor("t5t5", 11, new int[] {N, N, N, N, 7});
        neededFor("t5t5", 12, new int[] {N, 6, N, N, 7});
        neededFor("c9t5t5", 10, new int[] {N, N, N, N, 7});
        neededFor("t9t9", 99, new int[] {N, N, N, N, N});
        neededFor("t9t8", 99, new int[] {N, 9, N, N, N});
        neededFor("t5c9", 5, new int[] {N, N, N, N, N});
        neededFor("t5", 6, new int[] {6, 3, 6, N, 4});
        neededFor("t2t2t2t2", 9, new int[] {9, N, 9, N, 5});
        NamesOnIce x = new NamesOnIce();
        due.is("14 unknown below", x.needed(0, -1), U);
        due.is("14 unknown above", x.needed(0, 9), U);
        due.is("14 unknown first", x.needed(5, 9), U);
        due.is("14 outside below", x.needed(-1, 0), O);
        due.is("14 outside above", x.needed(5, 0), O);
        due.is("14 state last", x.needed(0, 0), S);
        for (int i = 0; i < 10; i++) {
            x.write(0, 0, 0, 1, 1, 1);
        }
        Due.put(x, "t1");
        due.is("14 whether or not there is room for a debt", x.needed(0, 0), 2);
        due.is("14 nothing has gone", x.count(2), 10);
    }

    /** Letters that were blanked are no days, though a new page is shorter than the old one. */
    private static void shorterPage() {
        NamesOnIce x = new NamesOnIce();
        x.ice(4, 3);
        Due.put(x, "st3");
        x.blank();
        Due.put(x, "s");
        due.is("14 an old thaw is gone", x.needed(0, 4), 1);
        due.is("13 an old thaw is gone", x.days(), 0);
        due.is("13 the ice is as before", x.square(4, 0), 3);
        due.is("13 one day has gone", x.count(3), 1);
        Due.put(x, "sc9");
        x.blank();
        Due.put(x, "s");
        due.is("15 an old cold is gone", x.bears(4), N);
        NamesOnIce y = new NamesOnIce();
        y.ice(4, 0);
        Due.put(y, "t1t1t1t1t1t1t1t1t1t1t1t1");
        due.is("14 a whole page", y.needed(0, 4), N);
        due.is("15 a whole page", y.bears(4), N);
        due.is("14 a whole page on 10", y.needed(4, 0), N);
    }

    private static void bearsBehind(String text, int ice, int want) {
        NamesOnIce x = new NamesOnIce();
        x.ice(4, ice);
        Due.put(x, text);
        due.is("15 " + text + " on " + ice, x.bears(4), want);
        due.is("15 the page stays", x.count(4), text.length());
        due.is("15 the ice stays", x.square(4, 0), ice);
    }

    private static void bears() {
        bearsBehind("s", 4, 0);
        bearsBehind("t9", 4, 0);
        bearsBehind("s", 3, N);
        bearsBehind("c1", 3, 1);
        bearsBehind("swc1", 3, 3);
        bearsBehind("c1t9c3c1t2", 0, 4);
        bearsBehind("c1t9c3", 0, N);
        bearsBehind("c2t2c2t2c4", 1, 5);
        bearsBehind("sssssssssssc4", 0, 12);
        NamesOnIce x = new NamesOnIce();
        due.is("15 unknown below", x.bears(-1), U);
        due.is("15 unknown above", x.bears(9), U);
        due.is("15 state last", x.bears(0), S);
    }
}
