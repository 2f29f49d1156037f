/** The edges of 'days': THE PAGE, DAYS, NEEDED, BEARS; promises 10 to 15. */
public final class DaysEdgesTest {
    private static final int N = NamesOnIce.NONE, U = Edges.U, O = Edges.O, S = Edges.S, F = Edges.F,
            FREE = Edges.FREE;
    private static final int DEEP = 1, BREATH = 3, STRAW = 4;
    private static final String[] DAYS = {"c1", "c9", "t1", "t9", "s", "w"};
    private static final Due due = new Due();
    private static final Edges edges = new Edges(due);

    public static void main(String[] args) {
        upToEight();
        above126();
        behindAZero();
        above24();
        lettersRefused();
        blank();
        firstLetters();
        secondLetters();
        twelveDays();
        daysRefused();
        goneByThem();
        neededNumbers();
        leastCut();
        neededIce();
        bearsNumbers();
        fourInches();
        due.end();
    }

    private static String times(String text, int n) {
        StringBuilder b = new StringBuilder();
        for (int i = 0; i < n; i++) {
            b.append(text);
        }
        return b.toString();
    }

    private static void upToEight() {
        for (int n = 0; n <= 8; n++) {
            NamesOnIce x = new NamesOnIce();
            due.is("10 Letters come behind THE PAGE, up to eight: " + n, x.letters(Due.word(times("w", n))), n);
            due.is("25 letters of THE PAGE", x.count(4), n);
            due.is("12 all are DAYS", x.fault(), n);
            due.is("10 none more by 0", x.letters(0), n);
        }
        for (int place = 0; place < 8; place++) {
            NamesOnIce x = new NamesOnIce();
            String text = times("w", place) + "x" + times("w", 7 - place);
            x.letters(Due.word(text));
            due.is("10 the lowest byte first: " + text, x.fault(), place);
        }
        NamesOnIce x = new NamesOnIce();
        x.letters(Due.word("ww"));
        due.is("10 behind THE PAGE", x.letters(Due.word("wxw")), 5);
        due.is("10 in their order", x.fault(), 3);
    }

    private static void above126() {
        for (int place = 0; place < 8; place++) {
            for (int code = 1; code <= 255; code++) {
                NamesOnIce x = new NamesOnIce();
                long w = Due.word(times("w", place)) | (long) code << (8 * place);
                due.is("10 OUTSIDE: a byte above 126: " + code + " at " + place,
                        x.letters(w), code > 126 ? O : place + 1);
                due.is("10 THE PAGE", x.count(4), code > 126 ? 0 : place + 1);
            }
        }
        due.is("10 eight of 126", new NamesOnIce().letters(0x7e7e7e7e7e7e7e7eL), 8);
        due.is("10 eight of 1", new NamesOnIce().letters(0x0101010101010101L), 8);
        due.is("10 eight of 127", new NamesOnIce().letters(0x7f7f7f7f7f7f7f7fL), O);
    }

    private static void behindAZero() {
        for (int bytes = 0; bytes < 256; bytes++) {
            long w = 0;
            for (int i = 0; i < 8; i++) {
                w |= (bytes >> i & 1) == 1 ? (long) 's' << (8 * i) : 0;
            }
            boolean whole = (bytes & (bytes + 1)) == 0;
            NamesOnIce x = new NamesOnIce();
            due.is("10 or one behind a 0 that is not 0: " + Integer.toBinaryString(bytes),
                    x.letters(w), whole ? Integer.bitCount(bytes) : O);
            due.is("10 THE PAGE", x.count(4), whole ? Integer.bitCount(bytes) : 0);
        }
        due.is("10 both at once", new NamesOnIce().letters(0xff00L), O);
        due.is("10 the least code behind a 0", new NamesOnIce().letters(0x0100000000000000L), O);
    }

    private static void above24() {
        for (int had = 0; had <= 24; had++) {
            for (int more = 0; more <= 8; more++) {
                NamesOnIce x = new NamesOnIce();
                Due.put(x, times("c", had));
                boolean fits = had + more <= 24;
                due.is("10 FULL: above 24: " + had + " and " + more,
                        x.letters(Due.word(times("w", more))), fits ? had + more : F);
                due.is("10 THE PAGE has", x.blank(), fits ? had + more : had);
            }
        }
    }

    private static void lettersRefused() {
        edges.refused("10 OUTSIDE: a byte above 126", Edges::busy, x -> x.letters(127), O);
        edges.refused("10 OUTSIDE: the highest byte", Edges::busy, x -> x.letters(Long.MIN_VALUE), O);
        edges.refused("10 OUTSIDE: all bytes", Edges::busy, x -> x.letters(-1), O);
        edges.refused("10 OUTSIDE: good letters first", Edges::busy, x -> x.letters(Due.word("sws") | 127L << 24), O);
        edges.refused("10 OUTSIDE: behind a 0", Edges::busy, x -> x.letters('s' | (long) 'w' << 16), O);
        edges.refused("10 FULL", Edges::full, x -> x.letters('s'), F);
        edges.refused("10 FULL: eight more", Edges::full, x -> x.letters(Due.word("ssssssss")), F);
        edges.refused("10 OUTSIDE before FULL", Edges::full, x -> x.letters(127), O);
        edges.refused("10 OUTSIDE before FULL: behind a 0", Edges::full, x -> x.letters((long) 's' << 8), O);
        NamesOnIce x = Edges.full();
        due.is("10 none more is not above 24", x.letters(0), 24);
    }

    private static void blank() {
        for (int had = 0; had <= 24; had++) {
            NamesOnIce x = new NamesOnIce();
            Due.put(x, times("s", had));
            due.is("11 THE PAGE is empty: how many letters it had", x.blank(), had);
            due.is("11 it is empty", x.count(4), 0);
            due.is("11 again", x.blank(), 0);
            due.is("12 fault of none", x.fault(), 0);
            due.is("13 no DAYS", x.days(), S);
            due.is("10 it has room for 24", Due.put(x, times("w", 24)), 24);
        }
    }

    private static int faultOf(String text) {
        NamesOnIce x = new NamesOnIce();
        Due.put(x, text);
        int place = x.fault();
        due.is("12 THE PAGE stays", x.count(4), text.length());
        return place;
    }

    private static void firstLetters() {
        for (int code = 1; code <= 126; code++) {
            boolean some = code == 'c' || code == 't' || code == 's' || code == 'w';
            boolean whole = code == 's' || code == 'w';
            String text = "" + (char) code;
            due.is("12 the first letter of THE PAGE that no DAYS have there: code " + code, faultOf(text), some ? 1 : 0);
            due.is("12 behind a DAY: code " + code, faultOf("c5" + text), some ? 3 : 2);
            NamesOnIce x = new NamesOnIce();
            Due.put(x, text);
            due.is("13 STATE: they are none: code " + code, x.days(), whole ? 0 : S);
            due.is("13 DAYS that have gone", x.count(3), whole ? 1 : 0);
            due.is("13 THE PAGE is empty then", x.count(4), whole ? 0 : 1);
        }
    }

    private static void secondLetters() {
        for (int code = 1; code <= 126; code++) {
            boolean inches = code >= '1' && code <= '9';
            boolean begins = code == 'c' || code == 't' || code == 's' || code == 'w';
            for (char day : new char[] {'c', 't', 's', 'w'}) {
                String text = "" + day + (char) code;
                boolean two = day == 'c' || day == 't';
                due.is("12 " + day + " and code " + code, faultOf(text), (two ? inches : begins) ? 2 : 1);
                NamesOnIce x = new NamesOnIce();
                Due.put(x, text);
                boolean days = two ? inches : code == 's' || code == 'w';
                due.is("13 \"c\" and 1 to 9, \"t\" and 1 to 9: " + day + " and code " + code, x.days(), days ? 0 : S);
                int ice = !days || !two ? 10 : day == 'c' ? 10 + code - '0' : 10 - (code - '0');
                due.is("13 by so many inches", x.square(0, 0), ice);
            }
        }
    }

    /** 0 to 13 DAYS of each sort, and another letter behind them. */
    private static void twelveDays() {
        for (String day : DAYS) {
            for (int n = 0; n <= 13 && n * day.length() <= 24; n++) {
                String text = times(day, n);
                int first = Math.min(n, 12) * day.length();
                due.is("12 one to twelve DAYS: " + text, faultOf(text), first);
                NamesOnIce x = new NamesOnIce();
                Due.put(x, text);
                boolean days = n >= 1 && n <= 12;
                due.is("14 one to twelve DAYS: " + text, x.needed(0, 0) == S ? 0 : 1, days ? 1 : 0);
                due.is("15 one to twelve DAYS: " + text, x.bears(0) == S ? 0 : 1, days ? 1 : 0);
                due.is("13 one to twelve DAYS: " + text, x.days(), days ? 0 : S);
                due.is("25 DAYS that have gone: " + text, x.count(3), days ? n : 0);
                due.is("25 letters of THE PAGE: " + text, x.count(4), days ? 0 : text.length());
                for (String more : new String[] {"c", "t", "s", "w", "1", "9", "x"}) {
                    if (n <= 12 && text.length() < 24) {
                        boolean begins = n < 12 && "ctsw".contains(more);
                        due.is("12 " + n + " DAYS and " + more, faultOf(text + more), begins ? first + 1 : first);
                    }
                }
            }
        }
        due.is("12 the twelfth has its inches", faultOf(times("s", 11) + "c9"), 13);
        due.is("12 the twelfth has none yet", faultOf(times("w", 11) + "t"), 12);
        due.is("12 the twelfth has wrong ones", faultOf(times("w", 11) + "t0"), 12);
        due.is("12 nothing is behind the twelfth", faultOf(times("s", 11) + "c9w"), 13);
        due.is("12 24 letters", faultOf(times("t9", 12)), 24);
        due.is("12 24 letters, the last is wrong", faultOf(times("t9", 11) + "tt"), 23);
        due.is("12 24 letters, the last but one is wrong", faultOf(times("t9", 11) + "9t"), 22);
        due.is("12 24 letters, the first is wrong", faultOf(times("9t", 12)), 0);
        due.is("12 24 letters of one DAY each", faultOf(times("s", 24)), 12);
        due.is("12 the first of several", faultOf("sxsxc0"), 1);
    }

    private static void daysRefused() {
        edges.refused("13 STATE: they are none", Edges::busyWithoutDays, NamesOnIce::days, S);
        for (String text : new String[] {"", "c", "t", "x", "s ", "c0", "t:", "S", "s1", "c12", "1c", times("s", 13),
            times("w", 24), times("c1", 11) + "cc", times("s", 11) + "c", times("s", 12) + "c1"}) {
            Edges.Make make = () -> {
                NamesOnIce x = Edges.busy();
                x.blank();
                Due.put(x, text);
                return x;
            };
            edges.refused("13 STATE: they are none: " + text, make, NamesOnIce::days, S);
            edges.refused("14 STATE: they are none: " + text, make, x -> x.needed(0, 0), S);
            edges.refused("15 STATE: they are none: " + text, make, x -> x.bears(0), S);
        }
    }

    private static void goneByThem() {
        NamesOnIce x = new NamesOnIce();
        x.ice(0, 99);
        for (int cut = 1; cut <= 9; cut++) {
            x.write(0, 0, 0, 1, 5, cut);
        }
        x.write(DEEP, 0, 0, 1, 5, 9);
        for (int left = 9; left >= 1; left--) {
            due.is("13 how many DEBTS are GONE by them: " + left, x.square(0, 2), left + 1);
            due.is("13 one each day", Due.pass(x, "t1"), 1);
        }
        due.is("13 nothing by others", Due.pass(x, "c9swc1"), 0);
        due.is("13 the DEEP one by one inch less", Due.pass(x, "t8"), 0);
        due.is("13 the DEEP one", Due.pass(x, "t1"), 1);
        due.is("13 none is left", Due.pass(x, "t9"), 0);
        NamesOnIce y = new NamesOnIce();
        y.ice(0, 99);
        for (int i = 0; i < 10; i++) {
            y.write(i % 5, 0, 0, 1, 5, 1 + i % 9);
        }
        due.is("13 all ten at once", Due.pass(y, "t9t9"), 10);
        NamesOnIce z = new NamesOnIce();
        for (int i = 0; i < 30; i++) {
            due.is("13 twelve DAYS, many times", Due.pass(z, "swswswswswsw"), 0);
        }
        due.is("25 DAYS that have gone", z.count(3), 360);
    }

    private static void neededNumbers() {
        int[][] numbers = {Edges.span(0, 4), Edges.span(0, 8)};
        Edges.Mix call = (x, v) -> x.needed(v[0], v[1]);
        edges.grid("14 UNKNOWN: square; OUTSIDE: kind", Edges::busy, numbers, call,
                v -> !Edges.in(v[1], 0, 8) ? U : !Edges.in(v[0], 0, 4) ? O : FREE);
        edges.grid("14 STATE: they are none", Edges::busyWithoutDays, numbers, call,
                v -> !Edges.in(v[1], 0, 8) ? U : !Edges.in(v[0], 0, 4) ? O : S);
    }

    private static String thawOf(int inches) {
        StringBuilder b = new StringBuilder();
        for (int left = inches; left > 0; left -= 9) {
            b.append('t').append(Math.min(9, left));
        }
        return b.toString();
    }

    /** In thick ICE: by a THAW of so many inches together, the last CUT that is too little and the first that is not. */
    private static void leastCut() {
        for (int kind = 0; kind < 5; kind++) {
            for (int inches = 1; inches <= 20; inches++) {
                NamesOnIce x = new NamesOnIce();
                x.ice(4, 99);
                Due.put(x, thawOf(inches));
                int half = inches <= 9 ? (inches + 1) / 2 : inches <= 18 ? 5 + (inches - 8) / 2 : 10;
                int least = kind == BREATH ? N : kind == STRAW ? half + 1 : kind == DEEP ? inches / 2 + 1 : inches + 1;
                due.is("NEEDED: the least CUT (1 to 9): kind " + kind + " by " + inches,
                        x.needed(kind, 4), least > 9 ? N : least);
                due.is("14 THE PAGE stays", x.count(4), thawOf(inches).length());
            }
            NamesOnIce x = new NamesOnIce();
            Due.put(x, "c9swc9sws");
            due.is("NEEDED: 1 where nothing melts", x.needed(kind, 4), 1);
        }
        neededIs("t8", 9, 9);
        neededIs("t9", 99, N);
        due.is("14 nothing is written by it", new NamesOnIce().count(1), 0);
    }

    private static void neededIs(String text, int ice, int want) {
        NamesOnIce x = new NamesOnIce();
        x.ice(4, ice);
        Due.put(x, text);
        due.is("NEEDED of a DEBT by " + text + " on " + ice, x.needed(0, 4), want);
    }

    /** What NEEDED tells can be written, and outlasts the DAYS; one inch of CUT less, or of ICE, does not. */
    private static void neededIce() {
        String[] pages = {"s", "c9", "t1", "t2c9", "t3t3", "t4c1t4", "t9t5", "t1t1t1t1t1t1t1t1t1t1t1t1", "t9t8"};
        for (String page : pages) {
            for (int ice = 0; ice <= 20; ice++) {
                for (int kind = 0; kind < 5; kind++) {
                    int first = N;
                    for (int cut = 9; cut >= 1; cut--) {
                        NamesOnIce x = new NamesOnIce();
                        x.ice(4, ice);
                        if (x.write(kind, 4, 0, 1, 5, cut) == 0) {
                            Due.pass(x, page);
                            first = x.about(0, 7) >= 1 ? cut : first;
                        }
                    }
                    NamesOnIce x = new NamesOnIce();
                    x.ice(4, ice);
                    Due.put(x, page);
                    due.is("what is cut is no more than there is ICE: kind " + kind + " by " + page + " on " + ice,
                            x.needed(kind, 4), first);
                }
            }
        }
    }

    private static void bearsNumbers() {
        int[][] numbers = {Edges.span(0, 8)};
        edges.grid("15 UNKNOWN: square", Edges::busy, numbers, (x, v) -> x.bears(v[0]),
                v -> Edges.in(v[0], 0, 8) ? FREE : U);
        edges.grid("15 STATE: they are none", Edges::busyWithoutDays, numbers, (x, v) -> x.bears(v[0]),
                v -> Edges.in(v[0], 0, 8) ? S : U);
    }

    private static void bearsIs(String text, int ice, int want) {
        NamesOnIce x = new NamesOnIce();
        x.ice(8, ice);
        Due.put(x, text);
        due.is("15 BEARS by " + text + " on " + ice, x.bears(8), want);
        due.is("15 THE PAGE stays", x.count(4), text.length());
        due.is("15 ICE stays", x.square(8, 0), ice);
    }

    private static void fourInches() {
        for (int ice = 0; ice <= 99; ice++) {
            bearsIs("t9t9", ice, ice >= 4 ? 0 : N);
        }
        for (int ice = 0; ice <= 3; ice++) {
            for (int inches = 1; inches <= 9; inches++) {
                bearsIs("c" + inches, ice, ice + inches >= 4 ? 1 : N);
                bearsIs("swc" + inches, ice, ice + inches >= 4 ? 3 : N);
            }
            bearsIs(times("c1", 12), ice, 4 - ice);
            bearsIs(times("s", 11) + "c4", ice, 12);
            bearsIs(times("s", 12), ice, N);
        }
        bearsIs("c3", 0, N);
        bearsIs("c4t4c9", 0, 1);
        bearsIs("c3t9c4", 0, 3);
        bearsIs(times("c3t3", 6), 0, N);
        bearsIs(times("c3t3", 5) + "c3c1", 0, 12);
    }
}
