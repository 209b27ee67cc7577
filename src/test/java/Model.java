import java.util.ArrayList;
import java.util.Arrays;
import java.util.List;

/** The document once more, written another way (rows copied, texts as trees): random runs are held against it. */
final class Model {
    static final int NONE = -1, BAD = -2, STATE = -3, FULL = -4, NOBIT = -5, NONUM = -7;
    static final long NO = -4611686018427387904L;

    static final class B {
        int above, kind, rods, wide, bent, more, soot;

        B copied() {
            B b = new B();
            b.above = above; b.kind = kind; b.rods = rods; b.wide = wide; b.bent = bent; b.more = more; b.soot = soot;
            return b;
        }

        int grows(int a) {
            switch (kind) {
                case 1: case 3: return a + more;
                case 5: return a / 2;
                default: return a;
            }
        }

        int left() {
            return kind == 3 ? soot / 2 : kind == 4 ? soot : 0;
        }

        int is() {
            if (kind == 2) return Math.max(wide - more, 0);
            if (kind == 4) return Math.max(Math.max(wide - more, 0) - soot / 10, 0);
            return wide;
        }

        int leaks() {
            return kind == 5 ? more * 10 : 0;
        }
    }

    interface E {
        int of(int[] names);
    }

    static final class Fault extends RuntimeException {
        final int place;

        Fault(int place) {
            super(null, null, false, false);
            this.place = place;
        }
    }

    /** A reading by descent, a method for each line of the grammar. */
    static final class Parser {
        final String s;
        int at, end, open;
        String tok;

        Parser(String s) {
            this.s = s;
            step();
        }

        void step() {
            at = end;
            while (at < s.length() && (s.charAt(at) == 32 || s.charAt(at) == 10)) at++;
            end = at;
            if (at == s.length()) { tok = ""; return; }
            char c = s.charAt(at);
            end = at + 1;
            if (c >= 'a' && c <= 'z') {
                while (end < s.length() && s.charAt(end) >= 'a' && s.charAt(end) <= 'z') end++;
            } else if (c >= '0' && c <= '9') {
                while (end < s.length() && s.charAt(end) >= '0' && s.charAt(end) <= '9') end++;
            }
            tok = s.substring(at, end);
        }

        RuntimeException fault() {
            return new Fault(at);
        }

        void need(String t) {
            if (!tok.equals(t)) throw fault();
            step();
        }

        void openOne() {
            if (open == 5) throw fault();
            open++;
            step();
        }

        E[] text() {
            E[] r = new E[3];
            String[] keys = {"adds", "heavy", "burns"};
            for (int i = 0; i < 3; i++) {
                need(keys[i]);
                r[i] = e();
                need(";");
            }
            if (!tok.isEmpty()) throw fault();
            return r;
        }

        E e() {
            E l = and();
            while (tok.equals("or")) {
                step();
                E a = l, b = and();
                l = n -> (a.of(n) != 0) | (b.of(n) != 0) ? 1 : 0;
            }
            return l;
        }

        E and() {
            E l = not();
            while (tok.equals("and")) {
                step();
                E a = l, b = not();
                l = n -> (a.of(n) != 0) & (b.of(n) != 0) ? 1 : 0;
            }
            return l;
        }

        E not() {
            if (tok.equals("not")) {
                openOne();
                E a = not();
                open--;
                return n -> a.of(n) == 0 ? 1 : 0;
            }
            E a = sum();
            if (tok.equals("<")) {
                step();
                E b = sum();
                return n -> a.of(n) < b.of(n) ? 1 : 0;
            }
            if (tok.equals("=")) {
                step();
                E b = sum();
                return n -> a.of(n) == b.of(n) ? 1 : 0;
            }
            return a;
        }

        E sum() {
            E l = term();
            while (tok.equals("+") || tok.equals("-")) {
                boolean plus = tok.equals("+");
                step();
                E a = l, b = term();
                l = n -> plus ? a.of(n) + b.of(n) : a.of(n) - b.of(n);
            }
            return l;
        }

        E term() {
            E l = one();
            while (tok.equals("*")) {
                step();
                E a = l, b = one();
                l = n -> a.of(n) * b.of(n);
            }
            return l;
        }

        E one() {
            if (tok.equals("-")) {
                openOne();
                E a = one();
                open--;
                return n -> -a.of(n);
            }
            if (tok.equals("(")) {
                openOne();
                E a = e();
                need(")");
                open--;
                return a;
            }
            if (!tok.isEmpty() && Character.isDigit(tok.charAt(0)) && tok.charAt(0) < 128) {
                if (tok.length() > 4) throw fault();
                int v = Integer.parseInt(tok);
                step();
                return n -> v;
            }
            int k = Arrays.asList("soot", "wide", "bend", "more", "heat", "wet").indexOf(tok);
            if (k < 0) throw fault();
            step();
            return n -> n[k];
        }
    }

    List<B> bits = new ArrayList<>();
    final List<E[]> texts = new ArrayList<>();
    int law = 0;
    final StringBuilder tape = new StringBuilder();
    final int[][] rows = new int[4][];
    final int[] sorts = new int[4];
    List<B> imageBits = null;
    int imageLaw;

    Model() {
        texts.add(new Parser("adds 1 + heat + wet * 2 ; heavy bend * 5 + soot - wide ; burns soot - 50 ;").text());
    }

    // ---- terms

    static boolean out(int v, int lo, int hi) {
        return v < lo || v > hi;
    }

    boolean noBit(int b) {
        return b < 0 || b >= bits.size();
    }

    boolean noFire(int f) {
        return noBit(f) || bits.stream().anyMatch(b -> b.above == f);
    }

    List<Integer> up(int b) {
        List<Integer> r = new ArrayList<>();
        for (int i = b; i >= 0; i = bits.get(i).above) r.add(i);
        return r;
    }

    List<Integer> places() {
        List<Integer> r = new ArrayList<>();
        for (int i = 0; i < bits.size(); i++) if (!noFire(i)) r.add(i);
        return r;
    }

    static List<B> copied(List<B> of) {
        List<B> r = new ArrayList<>();
        for (B b : of) r.add(b.copied());
        return r;
    }

    int say(int t, int part, B b, int heat, int wet) {
        int v = texts.get(t)[part].of(new int[] {b.soot, b.is(), b.bent, b.more, heat, wet});
        return v < 0 ? 0 : v > (part == 2 ? 100 : 99) ? (part == 2 ? 100 : 99) : v;
    }

    int heavy(B b) {
        return say(law, 1, b, 0, 0);
    }

    void burn(List<B> h, int f, int hw) {
        for (int i : up(f)) {
            B b = h.get(i);
            b.soot = Math.min(99, b.soot + b.grows(say(law, 0, b, hw / 10, hw % 10)));
        }
    }

    int stays(List<B> h, int f, int force) {
        for (int i : up(f)) if (h.get(i).is() == 0 || heavy(h.get(i)) > force) return i;
        return -1;
    }

    int swept(List<B> h, int f, int force) {
        int stay = stays(h, f, force), went = 0;
        for (int i : up(f)) {
            if (i == stay) break;
            int l = h.get(i).left();
            went += h.get(i).soot - l;
            h.get(i).soot = l;
        }
        return went;
    }

    int at(int f, int rods) {
        int sum = 0;
        for (int i : up(f)) {
            sum += bits.get(i).rods;
            if (sum >= rods) return i;
        }
        return -1;
    }

    long fineBy(int f, int n, int hw) {
        List<B> h = copied(bits);
        long v = 1000000000L;
        for (int k = 0; k < n; k++) {
            burn(h, f, hw);
            for (int i : up(f)) v = v * (100 - say(law, 2, h.get(i), hw / 10, hw % 10)) / 100;
        }
        return v;
    }

    int firstBurn(int seed, int f, int n, int hw) {
        List<B> h = copied(bits);
        long lot = seed + 1;
        for (int k = 1; k <= n; k++) {
            burn(h, f, hw);
            boolean any = false;
            for (int i : up(f)) {
                lot = lot * 48271L % 2147483647L;
                any |= lot % 100 < say(law, 2, h.get(i), hw / 10, hw % 10);
            }
            if (any) return k;
        }
        return -1;
    }

    int judged(int[] row, int f) {
        for (int i = 0; i < row.length; i++) {
            int b = at(f, i + 1);
            if (row[i] != (b < 0 ? -1 : heavy(bits.get(b)))) return i + 1;
        }
        return -1;
    }

    // ---- the face

    int count(int what) {
        switch (what) {
            case 0: return bits.size();
            case 1: return places().size();
            case 2: return (int) bits.stream().filter(b -> b.above < 0).count();
            case 3: return texts.size();
            case 4: return law;
            case 5: return tape.length();
            default: return BAD;
        }
    }

    int feed(int n, int a, int b, int c, int d, int e) {
        int[] five = {a, b, c, d, e};
        if (out(n, 1, 5)) return BAD;
        for (int v : five) if (out(v, 0, 255)) return BAD;
        if (tape.length() + n > 160) return FULL;
        for (int i = 0; i < n; i++) tape.append((char) five[i]);
        return tape.length();
    }

    int text() {
        if (texts.size() == 6) return FULL;
        String s = tape.toString();
        tape.setLength(0);
        try {
            texts.add(new Parser(s).text());
        } catch (Fault f) {
            return -100 - f.place;
        }
        return texts.size() - 1;
    }

    int force(int t) {
        if (out(t, 0, texts.size() - 1)) return BAD;
        int was = law;
        law = t;
        return was;
    }

    int asks(int part, int b, int heat, int wet) {
        if (noBit(b)) return NOBIT;
        if (out(part, 0, 2) || out(heat, 0, 9) || out(wet, 0, 9)) return NONUM;
        return say(law, part, bits.get(b), heat, wet);
    }

    int bit(int above, int kind, int longWide, int bendMore) {
        if (above != -1 && noBit(above) || out(kind, 0, 5)) return BAD;
        if (longWide < 0 || out(longWide / 10, 1, 6) || bendMore < 0 || out(bendMore / 10, 0, 4)) return BAD;
        if (bits.size() == 10) return FULL;
        B b = new B();
        b.above = above; b.kind = kind;
        b.rods = longWide / 10; b.wide = longWide % 10;
        b.bent = bendMore / 10; b.more = bendMore % 10;
        bits.add(b);
        return bits.size() - 1;
    }

    int mend(int b, int kind, int more) {
        if (noBit(b)) return NOBIT;
        if (out(kind, 0, 5) || out(more, 0, 9)) return NONUM;
        int was = bits.get(b).kind;
        bits.get(b).kind = kind;
        bits.get(b).more = more;
        return was;
    }

    int lay(int b, int v) {
        if (noBit(b)) return NOBIT;
        if (out(v, 0, 99)) return NONUM;
        int was = bits.get(b).soot;
        bits.get(b).soot = v;
        return was;
    }

    int told(int b, int what) {
        if (noBit(b)) return NOBIT;
        if (out(what, 0, 8)) return NONUM;
        B x = bits.get(b);
        return new int[] {x.kind, x.above, x.rods, x.wide, x.bent, x.more, x.soot, x.is(), x.leaks()}[what];
    }

    int all(int what) {
        if (out(what, 0, 1)) return BAD;
        int r = 0;
        for (int i = 0; i < bits.size(); i++) if (what == 0 ? !noFire(i) : bits.get(i).above < 0) r += 1 << i;
        return r;
    }

    int flue(int b, int what) {
        if (noBit(b)) return NOBIT;
        if (out(what, 0, 3)) return NONUM;
        List<Integer> u = up(b);
        if (what == 0) return u.get(u.size() - 1);
        int r = 0;
        if (what == 1) for (int i : u) r += 1 << i;
        if (what == 2) for (int f : places()) if (up(f).contains(b)) r += 1 << f;
        if (what == 3) for (int i : u) r += bits.get(i).rods;
        return r;
    }

    int join(int f, int g) {
        if (noBit(f) || noBit(g)) return NOBIT;
        for (int i : up(f)) if (up(g).contains(i)) return i;
        return -1;
    }

    int rod(int f, int rods, int what) {
        if (noFire(f)) return NOBIT;
        if (out(rods, 1, 60) || out(what, 0, 1)) return NONUM;
        int b = at(f, rods);
        return what == 0 || b < 0 ? b : heavy(bits.get(b));
    }

    int push(int f, int force, int what) {
        if (noFire(f)) return NOBIT;
        if (out(force, 0, 99) || out(what, 0, 1)) return NONUM;
        int s = stays(bits, f, force);
        if (what == 0) return s;
        int r = 0;
        for (int i : up(f)) {
            if (i == s) break;
            r += bits.get(i).rods;
        }
        return r;
    }

    int sweep(int f, int force) {
        if (noFire(f)) return NOBIT;
        if (out(force, 0, 99)) return NONUM;
        return swept(bits, f, force);
    }

    int needs(int f) {
        if (noFire(f)) return NOBIT;
        int r = 0;
        for (int i : up(f)) {
            if (bits.get(i).is() == 0) return -1;
            r = Math.max(r, heavy(bits.get(i)));
        }
        return r;
    }

    int fire(int f, int many, int hw) {
        if (noFire(f)) return NOBIT;
        if (out(many, 1, 20) || out(hw, 0, 99)) return NONUM;
        for (int k = 0; k < many; k++) burn(bits, f, hw);
        int r = 0;
        for (int i : up(f)) r += bits.get(i).soot;
        return r;
    }

    int smoke(int f, int b, int what) {
        if (noFire(f) || noBit(b)) return NOBIT;
        if (out(what, 0, 1)) return NONUM;
        int left = 1000, there = 0;
        for (int i : up(f)) {
            int go = left * bits.get(i).leaks() / 100;
            if (i == b) there = go;
            left -= go;
        }
        return what == 0 ? there : left;
    }

    int draw(int f, int wind) {
        if (noFire(f) || out(wind, 0, 99)) return -100000;
        int r = -wind;
        for (int i : up(f)) {
            B b = bits.get(i);
            r += 5 * b.rods - 2 * b.bent - (9 - b.is());
        }
        return r;
    }

    int smokes(int wind) {
        if (out(wind, 0, 99)) return BAD;
        int r = 0;
        for (int f : places()) if (draw(f, wind) < 0) r += 1 << f;
        return r;
    }

    long fine(int f, int many, int hw) {
        if (noFire(f) || out(many, 0, 40) || out(hw, 0, 99)) return NO;
        return fineBy(f, many, hw);
    }

    int when(int f, int hw, int hundredth) {
        if (noFire(f)) return NOBIT;
        if (out(hw, 0, 99) || out(hundredth, 0, 99)) return NONUM;
        for (int n = 1; n <= 40; n++) if (fineBy(f, n, hw) < (100L - hundredth) * 10000000L) return n;
        return -1;
    }

    int often(int f, int hw, int force, int line) {
        if (noFire(f)) return NOBIT;
        if (out(hw, 0, 99) || out(force, 0, 99) || out(line, 0, 99)) return NONUM;
        int found = -1;
        for (int n = 1; n <= 24; n++) {
            List<B> h = copied(bits);
            boolean good = true;
            for (int k = 1; k <= 24; k++) {
                burn(h, f, hw);
                for (int i : up(f)) good &= h.get(i).soot <= line;
                if (k % n == 0) swept(h, f, force);
            }
            if (good) found = n;
        }
        return found;
    }

    private int bestMost, bestOrder;

    private void orders(List<Integer> fires, List<Integer> chosen, int hw, int force) {
        if (chosen.size() == fires.size()) {
            List<B> h = copied(bits);
            int most = 0, digits = 0;
            for (int c : chosen) {
                for (int f : fires) burn(h, f, hw);
                for (B b : h) most = Math.max(most, b.soot);
                swept(h, c, force);
                digits = digits * 10 + c;
            }
            if (bestOrder < 0 || most < bestMost) {
                bestMost = most;
                bestOrder = digits;
            }
            return;
        }
        for (int f : fires) {
            if (!chosen.contains(f)) {
                List<Integer> next = new ArrayList<>(chosen);
                next.add(f);
                orders(fires, next, hw, force);
            }
        }
    }

    int round(int hw, int force, int what) {
        if (out(hw, 0, 99) || out(force, 0, 99) || out(what, 0, 1)) return BAD;
        if (bits.isEmpty()) return 0;
        List<Integer> fires = places();
        bestOrder = -1;
        orders(fires.subList(0, Math.min(4, fires.size())), new ArrayList<>(), hw, force);
        return what == 0 ? bestOrder : bestMost;
    }

    int ball(int p, int size, int what) {
        if (noBit(p) || bits.get(p).above != -1) return NOBIT;
        if (out(size, 0, 9) || out(what, 0, 2)) return NONUM;
        int at = p, rods = 0;
        while (true) {
            if (bits.get(at).is() < size) return new int[] {at, -1, rods}[what];
            rods += bits.get(at).rods;
            int next = -1;
            for (int i = bits.size() - 1; i >= 0; i--) if (bits.get(i).above == at) next = i;
            if (next < 0) return new int[] {-1, at, rods}[what];
            at = next;
        }
    }

    int judge(int s, int f) {
        if (out(s, 0, 3)) return BAD;
        if (rows[s] == null) return -11;
        if (noFire(f)) return NOBIT;
        return judged(rows[s], f);
    }

    int whose(int s) {
        if (out(s, 0, 3)) return BAD;
        if (rows[s] == null) return -11;
        int r = 0;
        for (int f : places()) if (judged(rows[s], f) == -1) r += 1 << f;
        return r;
    }

    int laws(int s, int f) {
        if (out(s, 0, 3)) return BAD;
        if (rows[s] == null) return -11;
        if (noFire(f)) return NOBIT;
        int r = 0, was = law;
        for (law = 0; law < texts.size(); law++) if (judged(rows[s], f) == -1) r += 1 << law;
        law = was;
        return r;
    }

    int blocked(int s, int f, int what) {
        if (out(s, 0, 3)) return BAD;
        if (rows[s] == null) return -11;
        if (noFire(f)) return NOBIT;
        if (out(what, 0, 1)) return NONUM;
        List<Integer> found = new ArrayList<>();
        List<B> was = bits;
        for (int i : up(f)) {
            for (int n = 1; n <= 9; n++) {
                bits = copied(was);
                bits.get(i).kind = 2;
                bits.get(i).more = n;
                if (judged(rows[s], f) == -1) found.add(i * 10 + n);
            }
        }
        bits = was;
        return what == 1 ? found.size() : found.isEmpty() ? -1 : found.get(0);
    }

    int film(int s, int f, int n) {
        if (out(s, 0, 3)) return BAD;
        if (noFire(f)) return NOBIT;
        if (out(n, 0, 40)) return NONUM;
        sorts[s] = 2;
        rows[s] = new int[n];
        for (int i = 0; i < n; i++) rows[s][i] = at(f, i + 1) < 0 ? -1 : heavy(bits.get(at(f, i + 1)));
        return n;
    }

    int drawn(int seed, int f, int many, int hw) {
        if (noFire(f)) return NOBIT;
        if (out(seed, 0, 99999) || out(many, 0, 40) || out(hw, 0, 99)) return NONUM;
        return firstBurn(seed, f, many, hw);
    }

    long odds(int seed, int f, int many, int hw, int part) {
        if (noFire(f) || out(seed, 0, 99999) || out(many, 0, 40) || out(hw, 0, 99) || out(part, 0, 1)) return NO;
        int n = 0;
        for (int k = 0; k < 20; k++) if (firstBurn(seed + k, f, many, hw) == -1) n++;
        int a = n, b = 20;
        for (int d : new int[] {2, 2, 5}) {
            if (a % d == 0 && b % d == 0) {
                a /= d;
                b /= d;
            }
        }
        return part == 0 ? a : b;
    }

    int image() {
        imageBits = copied(bits);
        imageLaw = law;
        return bits.size();
    }

    int back() {
        if (imageBits == null) return STATE;
        bits = copied(imageBits);
        law = imageLaw;
        return bits.size();
    }

    int sheet(int s, int sort, int n) {
        if (out(s, 0, 3) || out(sort, -1, 2)) return BAD;
        if (sort == -1) {
            rows[s] = null;
            return 1;
        }
        if (n > 40) return BAD;
        if (n < 0) return -14;
        rows[s] = new int[n];
        sorts[s] = sort;
        return 1;
    }

    int cell(int s, int i, int v) {
        if (out(s, 0, 3)) return BAD;
        if (rows[s] == null) return -11;
        if (out(i, 0, rows[s].length - 1)) return -12;
        rows[s][i] = sorts[s] == 0 ? (byte) v : sorts[s] == 1 ? (short) v : v;
        return 1;
    }

    int copy(int s, int i, int other, int j, int n) {
        if (out(s, 0, 3) || out(other, 0, 3)) return BAD;
        if (rows[s] == null || rows[other] == null) return -11;
        if (sorts[s] != sorts[other]) return -13;
        if (n < 0 || i < 0 || j < 0 || (long) i + n > rows[s].length || (long) j + n > rows[other].length) return -12;
        int[] were = rows[s].clone();
        for (int k = 0; k < n; k++) rows[other][j + k] = were[i + k];
        return n;
    }

    int bitsBy(int s, int sort, int at, int n) {
        if (out(s, 0, 3) || out(sort, 0, 2) || out(n, 0, 10)) return BAD;
        if (rows[s] == null) return -11;
        if (sorts[s] != sort) return -13;
        int came = 0;
        for (int k = 0; k < n; k++) {
            int[] four = new int[4];
            for (int q = 0; q < 4; q++) {
                long place = (long) at + 4 * k + q;
                if (place < 0 || place >= rows[s].length) return -12;
                four[q] = rows[s][(int) place];
            }
            if (bit(four[0], four[1], four[2], four[3]) >= 0) came++;
        }
        return came;
    }

    int taken(int i, int kind) {
        if (out(kind, 0, 6)) return BAD;
        if (out(i, 0, 19)) return -12;
        if (noBit(i % 10)) return -11;
        B b = bits.get(i % 10);
        if (i >= 10) return b.soot == 0 ? -11 : kind == 6 ? b.soot : -13;
        int[][] are = {{0}, {0, 1}, {0, 2}, {0, 1, 3}, {0, 2, 4}, {0, 5}};
        return Arrays.stream(are[b.kind]).anyMatch(k -> k == kind) ? i : -13;
    }
}
