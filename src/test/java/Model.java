import java.math.BigInteger;
import java.util.ArrayList;
import java.util.Arrays;
import java.util.List;

/** A second town, written from the document apart from the class: slow, by trying all ways. */
final class Model {
    static final class Slip {
        int kind, square, debtor, creditor, sum, cut, blockIce;
        boolean gone, saved;

        Slip copy() {
            Slip s = new Slip();
            s.kind = kind;
            s.square = square;
            s.debtor = debtor;
            s.creditor = creditor;
            s.sum = sum;
            s.cut = cut;
            s.blockIce = blockIce;
            s.gone = gone;
            s.saved = saved;
            return s;
        }
    }

    int rows = 3, wide = 3, passed = 0, sledgesDone = 0;
    int[] ice = filled(9, 10), snow = new int[9];
    List<Slip> slips = new ArrayList<>();
    String page = "";
    Model kept = null;

    private static int[] filled(int n, int v) {
        int[] a = new int[n];
        Arrays.fill(a, v);
        return a;
    }

    private Model copyOfTown() {
        Model m = new Model();
        m.rows = rows;
        m.wide = wide;
        m.passed = passed;
        m.ice = ice.clone();
        m.snow = snow.clone();
        for (Slip s : slips) {
            m.slips.add(s.copy());
        }
        return m;
    }

    private boolean noSquare(int s) {
        return s < 0 || s >= ice.length;
    }

    private static boolean noPerson(int p) {
        return p < 0 || p > 5;
    }

    private static boolean out(int v, int a, int b) {
        return v < a || v > b;
    }

    int lake(int r, int w) {
        if (out(r, 2, 4) || out(w, 2, 4)) {
            return -102;
        }
        rows = r;
        wide = w;
        ice = filled(r * w, 10);
        snow = new int[r * w];
        slips.clear();
        passed = 0;
        kept = null;
        return r * w;
    }

    int ice(int s, int v) {
        if (noSquare(s)) {
            return -101;
        }
        if (out(v, 0, 99)) {
            return -102;
        }
        for (Slip d : slips) {
            if (d.square == s && !d.gone && !d.saved) {
                return -103;
            }
        }
        int was = ice[s];
        ice[s] = v;
        return was;
    }

    int square(int s, int what) {
        if (noSquare(s)) {
            return -101;
        }
        if (what == 2) {
            return (int) slips.stream().filter(d -> d.square == s && !d.gone && !d.saved).count();
        }
        return what == 0 ? ice[s] : what == 1 ? snow[s] : what == 3 ? (ice[s] > 3 ? 1 : 0) : -102;
    }

    int fish(int s) {
        if (noSquare(s)) {
            return -101;
        }
        if (ice[s] == 0) {
            return -103;
        }
        ice[s] = 0;
        int n = 0;
        for (Slip d : slips) {
            if (d.square == s && !d.gone && !d.saved) {
                d.gone = true;
                n++;
            }
        }
        return n;
    }

    int write(int kind, int s, int a, int b, int sum, int cut) {
        if (noSquare(s) || noPerson(a) || noPerson(b) || a == b) {
            return -101;
        }
        if (out(kind, 0, 4) || out(sum, 1, 99) || out(cut, 1, 9)) {
            return -102;
        }
        int depth = kind == 1 ? cut + cut : cut;
        if (depth > ice[s]) {
            return -103;
        }
        if (slips.size() == 10) {
            return -104;
        }
        slips.add(slip(kind, s, a, b, sum, depth));
        return slips.size() - 1;
    }

    private static Slip slip(int kind, int s, int a, int b, int sum, int depth) {
        Slip d = new Slip();
        d.kind = kind;
        d.square = s;
        d.debtor = a;
        d.creditor = b;
        d.sum = sum;
        d.cut = depth;
        return d;
    }

    private int worth(Slip d) {
        if (d.gone) {
            return 0;
        }
        int more = (d.saved ? d.blockIce : ice[d.square]) / 10;
        return d.kind == 2 || d.kind == 4 ? d.sum + more : d.sum;
    }

    private int state(Slip d) {
        return d.saved ? 3 : d.gone ? 0 : snow[d.square] > 0 ? 1 : 2;
    }

    int about(int n, int what) {
        if (n < 0 || n >= slips.size()) {
            return -101;
        }
        if (out(what, 0, 7)) {
            return -102;
        }
        Slip d = slips.get(n);
        return new int[] {d.kind, d.square, d.debtor, d.creditor, d.sum, d.gone ? 0 : d.cut, worth(d), state(d)}[what];
    }

    int as(int n, int kind) {
        if (n < 0 || n >= slips.size()) {
            return -101;
        }
        if (out(kind, 0, 4)) {
            return -102;
        }
        int own = slips.get(n).kind;
        return kind == 0 || kind == own || (kind == 2 && own == 4) ? n : -1;
    }

    int saw(int n) {
        if (n < 0 || n >= slips.size()) {
            return -101;
        }
        Slip d = slips.get(n);
        if (d.gone || d.saved) {
            return -103;
        }
        d.saved = true;
        d.blockIce = ice[d.square];
        return d.blockIce;
    }

    int letters(long w) {
        StringBuilder b = new StringBuilder();
        boolean ended = false;
        for (int i = 0; i < 8; i++) {
            int code = (int) (w & 0xff);
            w >>>= 8;
            if (code > 126 || (ended && code != 0)) {
                return -102;
            }
            ended |= code == 0;
            if (!ended) {
                b.append((char) code);
            }
        }
        if (page.length() + b.length() > 24) {
            return -104;
        }
        page += b;
        return page.length();
    }

    int blank() {
        int had = page.length();
        page = "";
        return had;
    }

    int fault() {
        for (int i = 1; i <= page.length(); i++) {
            String head = page.substring(0, i);
            if (!head.matches("([ct][1-9]|[sw]){0,12}") && !head.matches("([ct][1-9]|[sw]){0,11}[ct]")) {
                return i - 1;
            }
        }
        return page.length();
    }

    private boolean noDays() {
        return !page.matches("([ct][1-9]|[sw]){1,12}");
    }

    private static List<String> parts(String text) {
        List<String> all = new ArrayList<>();
        for (String p : text.split("(?=[ctsw])")) {
            if (!p.isEmpty()) {
                all.add(p);
            }
        }
        return all;
    }

    private int pass(String day) {
        int gone = 0;
        int by = day.length() > 1 ? day.charAt(1) - '0' : 0;
        char c = day.charAt(0);
        for (int s = 0; s < ice.length; s++) {
            snow[s] = c == 's' ? Math.min(9, snow[s] + 1) : c == 'c' ? snow[s] : 0;
            ice[s] = c == 'c' ? Math.min(99, ice[s] + by) : c == 't' ? Math.max(0, ice[s] - by) : ice[s];
        }
        for (Slip d : slips) {
            if (c == 't' && !d.gone && !d.saved) {
                d.cut -= d.kind == 4 ? (int) Math.ceil(by / 2.0) : by;
                if (d.cut <= 0 || ice[d.square] <= 0 || d.kind == 3) {
                    d.gone = true;
                    gone++;
                }
            }
        }
        passed++;
        return gone;
    }

    int days() {
        if (noDays()) {
            return -103;
        }
        int gone = 0;
        for (String p : parts(page)) {
            gone += pass(p);
        }
        page = "";
        return gone;
    }

    int needed(int kind, int s) {
        if (noSquare(s)) {
            return -101;
        }
        if (out(kind, 0, 4)) {
            return -102;
        }
        if (noDays()) {
            return -103;
        }
        for (int cut = 1; cut <= 9; cut++) {
            Model m = copyOfTown();
            m.slips.clear();
            if (m.write(kind, s, 0, 1, 1, cut) == 0) {
                for (String p : parts(page)) {
                    m.pass(p);
                }
                if (m.count(2) == 1) {
                    return cut;
                }
            }
        }
        return -1;
    }

    int bears(int s) {
        if (noSquare(s)) {
            return -101;
        }
        if (noDays()) {
            return -103;
        }
        Model m = copyOfTown();
        for (String p : parts(page)) {
            if (m.ice[s] >= 4) {
                return m.passed - passed;
            }
            m.pass(p);
        }
        return m.ice[s] >= 4 ? m.passed - passed : -1;
    }

    int owes(int a, int b, boolean read) {
        if (noPerson(a) || noPerson(b) || a == b) {
            return -101;
        }
        return slips.stream().filter(d -> d.debtor == a && d.creditor == b && (!read || state(d) > 1))
                .mapToInt(this::worth).sum();
    }

    int rest(int p) {
        if (noPerson(p)) {
            return -100001;
        }
        int r = 0;
        for (int q = 0; q < 6; q++) {
            r += q == p ? 0 : owes(q, p, false) - owes(p, q, false);
        }
        return r;
    }

    int sledges(int k, int bears, int what) {
        if (out(k, 1, 3) || out(bears, 1, 200) || out(what, 0, 1)) {
            return -102;
        }
        if (sledgesDone == 20) {
            return -103;
        }
        sledgesDone++;
        int[] best = {0, 0};
        lay(0, new int[k], bears, 0, 0, best);
        return best[what];
    }

    private void lay(int n, int[] loads, int bears, int worth, int bits, int[] best) {
        if (n == slips.size()) {
            int c = Integer.compare(worth, best[0]);
            c = c != 0 ? c : Integer.compare(Integer.bitCount(best[1]), Integer.bitCount(bits));
            c = c != 0 ? c : Integer.compare(best[1], bits);
            if (c > 0) {
                best[0] = worth;
                best[1] = bits;
            }
            return;
        }
        lay(n + 1, loads, bears, worth, bits, best);
        Slip d = slips.get(n);
        for (int i = 0; i < loads.length && !d.gone && !d.saved; i++) {
            if (loads[i] + ice[d.square] <= bears) {
                loads[i] += ice[d.square];
                lay(n + 1, loads, bears, worth + worth(d), bits | 1 << n, best);
                loads[i] -= ice[d.square];
            }
        }
    }

    int settled(int what) {
        if (out(what, 0, 1)) {
            return -102;
        }
        int[] rests = new int[6];
        for (int p = 0; p < 6; p++) {
            rests[p] = rest(p);
        }
        return what == 0 ? payments(rests, 0) : parted(rests, 0, new int[6], 0);
    }

    /** The first one who is not settled pays or is paid by one of the others, all that it has. */
    private static int payments(int[] r, int from) {
        while (from < 6 && r[from] == 0) {
            from++;
        }
        if (from == 6) {
            return 0;
        }
        int best = 99;
        for (int q = from + 1; q < 6; q++) {
            if (r[q] * r[from] < 0) {
                r[q] += r[from];
                best = Math.min(best, 1 + payments(r, from + 1));
                r[q] -= r[from];
            }
        }
        return best;
    }

    private static int parted(int[] r, int p, int[] sums, int groups) {
        if (p == 6) {
            for (int g = 0; g < groups; g++) {
                if (sums[g] != 0) {
                    return 0;
                }
            }
            return groups;
        }
        int best = 0;
        for (int g = 0; g <= groups && g < 6; g++) {
            sums[g] += r[p];
            best = Math.max(best, parted(r, p + 1, sums, Math.max(groups, g + 1)));
            sums[g] -= r[p];
        }
        return best;
    }

    int skate(int a, int b, int what) {
        if (noSquare(a) || noSquare(b)) {
            return -101;
        }
        if (out(what, 0, 1)) {
            return -102;
        }
        int[] best = {99, -1};
        go(a, b, new boolean[ice.length], 0, 0, best);
        return best[0] == 99 ? -1 : best[what];
    }

    private void go(int at, int to, boolean[] seen, int steps, int worth, int[] best) {
        if (ice[at] < 4 || seen[at] || steps > best[0]) {
            return;
        }
        for (Slip d : slips) {
            worth += d.square == at && state(d) == 2 ? worth(d) : 0;
        }
        if (at == to) {
            if (steps < best[0] || worth > best[1]) {
                best[0] = steps;
                best[1] = worth;
            }
            return;
        }
        seen[at] = true;
        for (int other = 0; other < ice.length; other++) {
            if (Math.abs(other / wide - at / wide) + Math.abs(other % wide - at % wide) == 1) {
                go(other, to, seen, steps + 1, worth, best);
            }
        }
        seen[at] = false;
    }

    long odds(int n, int days, int tenths, int inches, int part) {
        if (n < 0 || n >= slips.size()) {
            return -101;
        }
        if (out(days, 1, 9) || out(tenths, 0, 9) || out(inches, 1, 9) || out(part, 0, 1)) {
            return -102;
        }
        long above = 0;
        for (int outcome = 0; outcome < 1 << days; outcome++) {
            Model m = copyOfTown();
            long ways = 1;
            for (int day = 0; day < days; day++) {
                boolean thaw = (outcome >> day & 1) == 1;
                ways *= thaw ? tenths : 10 - tenths;
                if (thaw) {
                    m.pass("t" + inches);
                }
            }
            above += m.slips.get(n).gone ? 0 : ways;
        }
        BigInteger up = BigInteger.valueOf(above);
        BigInteger down = BigInteger.TEN.pow(days);
        return (part == 0 ? up : down).divide(up.gcd(down)).longValueExact();
    }

    int winter(int days, int seed, int what) {
        if (out(days, 1, 60) || seed < 0 || out(what, 0, 2)) {
            return -102;
        }
        Model m = copyOfTown();
        BigInteger[] s = {BigInteger.valueOf(seed)};
        for (int i = 0; i < days; i++) {
            int day = draw(s, 4);
            m.pass("ctsw".charAt(day) + (day < 2 ? "" + (draw(s, 9) + 1) : ""));
        }
        return what == 0 ? m.count(2) : what == 1 ? Arrays.stream(m.ice).sum() : s[0].intValueExact();
    }

    private static int draw(BigInteger[] s, int of) {
        s[0] = s[0].multiply(BigInteger.valueOf(1103515245)).add(BigInteger.valueOf(12345))
                .mod(BigInteger.TWO.pow(31));
        return s[0].divide(BigInteger.valueOf(65536)).mod(BigInteger.valueOf(of)).intValue();
    }

    int image() {
        kept = copyOfTown();
        return slips.size();
    }

    int restore() {
        if (kept == null) {
            return -103;
        }
        Model m = kept.copyOfTown();
        ice = m.ice;
        snow = m.snow;
        slips = m.slips;
        passed = m.passed;
        return slips.size();
    }

    int count(int what) {
        if (out(what, 0, 5)) {
            return -102;
        }
        int standing = (int) slips.stream().filter(d -> !d.gone).count();
        return new int[] {rows * wide, slips.size(), standing, passed, page.length(), sledgesDone}[what];
    }

    long digest() {
        List<Integer> all = new ArrayList<>();
        for (int s = 0; s < ice.length; s++) {
            for (int what = 0; what < 4; what++) {
                all.add(square(s, what));
            }
        }
        for (int n = 0; n < slips.size(); n++) {
            for (int what = 0; what < 8; what++) {
                all.add(about(n, what));
            }
        }
        for (int p = 0; p < 6; p++) {
            all.add(rest(p));
        }
        all.add(settled(0));
        all.add(settled(1));
        all.add(skate(0, ice.length - 1, 0));
        all.add(skate(0, ice.length - 1, 1));
        page.chars().forEach(all::add);
        for (int what = 0; what < 6; what++) {
            all.add(count(what));
        }
        long h = 617;
        for (int v : all) {
            h = h * 31 + v;
        }
        return h;
    }
}
