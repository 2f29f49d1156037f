/** Promises 6 to 9: write, about, as, saw. */
public final class DebtsTest {
    private static final int N = NamesOnIce.NONE, U = NamesOnIce.UNKNOWN, O = NamesOnIce.OUTSIDE,
            S = NamesOnIce.STATE, F = NamesOnIce.FULL;
    private static final Due due = new Due();

    public static void main(String[] args) {
        write();
        writeRefused();
        about();
        worth();
        as();
        saw();
        due.end();
    }

    private static void write() {
        NamesOnIce x = new NamesOnIce();
        for (int i = 0; i < 10; i++) {
            due.is("6 number", x.write(i % 5, i % 9, i % 6, (i + 1) % 6, 99, 5), i);
        }
        due.is("6 full", x.write(0, 0, 0, 1, 1, 1), F);
        due.is("6 state before full", x.write(1, 0, 0, 1, 1, 6), S);
        due.is("6 full changes nothing", x.count(1), 10);
        x.fish(0);
        due.is("6 gone ones keep their numbers", x.write(0, 1, 0, 1, 1, 1), F);
    }

    private static void writeRefused() {
        NamesOnIce x = new NamesOnIce();
        int[] noPerson = {-1, 6, Integer.MIN_VALUE, Integer.MAX_VALUE};
        for (int p : noPerson) {
            due.is("6 debtor unknown", x.write(0, 0, p, 1, 1, 1), U);
            due.is("6 creditor unknown", x.write(0, 0, 1, p, 1, 1), U);
        }
        due.is("6 square unknown", x.write(0, 9, 0, 1, 1, 1), U);
        due.is("6 square below", x.write(0, -1, 0, 1, 1, 1), U);
        due.is("6 alike", x.write(0, 0, 3, 3, 1, 1), U);
        due.is("6 unknown first", x.write(9, 0, 3, 3, 0, 0), U);
        due.is("6 kind below", x.write(-1, 0, 0, 1, 1, 1), O);
        due.is("6 kind above", x.write(5, 0, 0, 1, 1, 1), O);
        due.is("6 sum below", x.write(0, 0, 0, 1, 0, 1), O);
        due.is("6 sum above", x.write(0, 0, 0, 1, 100, 1), O);
        due.is("6 cut below", x.write(0, 0, 0, 1, 1, 0), O);
        due.is("6 cut above", x.write(0, 0, 0, 1, 1, 10), O);
        due.is("6 a deep one is cut twice", x.write(1, 0, 0, 1, 1, 6), S);
        due.is("6 refusals change nothing", x.count(1), 0);
        due.is("6 as deep as the ice", x.write(1, 0, 0, 1, 1, 5), 0);
        x.ice(1, 3);
        due.is("6 outside before state", x.write(0, 1, 0, 1, 1, 10), O);
        due.is("6 less ice", x.write(0, 1, 0, 1, 1, 4), S);
        due.is("6 all the ice", x.write(4, 1, 0, 1, 1, 3), 1);
        x.ice(2, 0);
        due.is("6 no ice", x.write(3, 2, 0, 1, 1, 1), S);
        Due.pass(x, "s");
        due.is("6 through snow", x.write(0, 3, 5, 0, 1, 9), 2);
    }

    private static void about() {
        NamesOnIce x = new NamesOnIce();
        x.write(2, 7, 4, 5, 31, 6);
        int[] told = {2, 7, 4, 5, 31, 6, 32, 2};
        for (int what = 0; what <= 7; what++) {
            due.is("7 about " + what, x.about(0, what), told[what]);
        }
        x.write(1, 7, 0, 1, 9, 4);
        due.is("7 a deep cut", x.about(1, 5), 8);
        due.is("7 unknown below", x.about(-1, 0), U);
        due.is("7 unknown above", x.about(2, 0), U);
        due.is("7 unknown first", x.about(2, 8), U);
        due.is("7 outside below", x.about(0, -1), O);
        due.is("7 outside above", x.about(0, 8), O);
        Due.pass(x, "t2s");
        due.is("7 cut left", x.about(0, 5), 4);
        due.is("7 deep cut left", x.about(1, 5), 6);
        due.is("7 hidden", x.about(0, 7), 1);
        due.is("7 hidden has its worth", x.about(0, 6), 31);
        x.saw(1);
        due.is("7 saved, in snow", x.about(1, 7), 3);
        Due.pass(x, "wt4");
        due.is("7 gone", x.about(0, 7), 0);
        due.is("7 gone: no cut", x.about(0, 5), 0);
        due.is("7 gone: no worth", x.about(0, 6), 0);
        due.is("7 gone: its sum", x.about(0, 4), 31);
        due.is("7 gone: its kind", x.about(0, 0), 2);
        due.is("7 saved: its cut", x.about(1, 5), 6);
        due.is("7 saved: its worth", x.about(1, 6), 9);
    }

    private static void worth() {
        int[] ices = {9, 10, 19, 20, 99};
        int[] more = {0, 1, 1, 2, 9};
        for (int i = 0; i < ices.length; i++) {
            NamesOnIce x = new NamesOnIce();
            x.ice(0, ices[i]);
            for (int kind = 0; kind < 5; kind++) {
                x.write(kind, 0, 0, 1, 50, 1);
                boolean pledge = kind == 2 || kind == 4;
                due.is("7 worth of " + kind, x.about(kind, 6), pledge ? 50 + more[i] : 50);
            }
        }
        NamesOnIce x = new NamesOnIce();
        x.write(2, 0, 0, 1, 50, 9);
        x.write(4, 0, 0, 1, 50, 9);
        x.saw(0);
        Due.pass(x, "c9c9");
        due.is("7 worth as when it was saved", x.about(0, 6), 51);
        due.is("7 worth as it is now", x.about(1, 6), 52);
        x.fish(0);
        due.is("7 saved from the hole", x.about(0, 6), 51);
        due.is("7 gone in the hole", x.about(1, 6), 0);
    }

    private static void as() {
        NamesOnIce x = new NamesOnIce();
        for (int own = 0; own < 5; own++) {
            x.write(own, 0, 0, 1, 50, 1);
        }
        for (int round = 0; round < 2; round++) {
            for (int own = 0; own < 5; own++) {
                for (int kind = 0; kind < 5; kind++) {
                    boolean such = kind == 0 || own == kind || (own == 4 && kind == 2);
                    due.is("8 " + own + " as " + kind, x.as(own, kind), such ? own : N);
                }
            }
            x.fish(0);
        }
        due.is("8 unknown below", x.as(-1, 0), U);
        due.is("8 unknown above", x.as(5, 0), U);
        due.is("8 unknown first", x.as(5, 5), U);
        due.is("8 outside below", x.as(0, -1), O);
        due.is("8 outside above", x.as(0, 5), O);
    }

    private static void saw() {
        NamesOnIce x = new NamesOnIce();
        x.ice(0, 37);
        x.write(0, 0, 0, 1, 50, 1);
        x.write(3, 0, 0, 1, 50, 1);
        x.write(0, 1, 0, 1, 50, 1);
        due.is("9 unknown below", x.saw(-1), U);
        due.is("9 unknown above", x.saw(3), U);
        due.is("9 weight", x.saw(0), 37);
        due.is("9 saved already", x.saw(0), S);
        due.is("9 the ice stays", x.square(0, 0), 37);
        Due.pass(x, "s");
        due.is("9 a hidden one", x.saw(1), 37);
        due.is("9 gone by a thaw", Due.pass(x, "t9"), 1);
        due.is("9 it is gone", x.saw(2), S);
        due.is("9 a saved breath outlasts a thaw", x.about(1, 7), 3);
        due.is("9 a saved cut stays", x.about(0, 5), 1);
    }
}
