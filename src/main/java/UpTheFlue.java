/** Up the flue: the flues of a house, their soot, rods, fires and smoke, and the law that a text is for them. */
public final class UpTheFlue {
    public static final int NONE = -1, BAD = -2, STATE = -3, FULL = -4;
    public static final long NO = -4611686018427387904L;

    private static final int NO_SUCH = -5, NO_NUMBER = -7;
    private static final int MISSING = -11, OUTSIDE = -12, UNLIKE = -13, BELOW_ZERO = -14;
    private static final int NO_DRAW = -100000, FAULT = -100;

    private static final int MOST_BITS = 10, MOST_TEXTS = 6, MOST_SHEETS = 4, MOST_CELLS = 40;
    private static final int MOST_BYTES = 160, MOST_OPEN = 5, MOST_SOOT = 99, MOST_FIRES = 40;
    private static final int SEEDS = 20, LAST_SEED = 99999;

    private static final int BIT = 0, SOOTY = 1, BLOCKED = 2, TARRED = 3, LOST = 4, CRACKED = 5, SOOT = 6;

    private static final int ADDS = 0, HEAVY = 1, BURNS = 2;
    /** The heatWet of heavy. */
    private static final int NO_FIRE = 0;

    private static final int MISSING_SORT = -1, BYTES = 0, SHORTS = 1, INTS = 2;

    private static final String FIRST_TEXT =
            "adds 1 + heat + wet * 2 ; heavy bend * 5 + soot - wide ; burns soot - 50 ;";

    private final House house;
    private final Reader reader = new Reader();
    private final Law[] texts = new Law[MOST_TEXTS];
    private final Sheet[] sheets = new Sheet[MOST_SHEETS];
    private int textCount = 1;
    private int lawNumber = 0;
    private int imageLaw = NONE;

    public UpTheFlue() {
        for (int i = 0; i < texts.length; i++) {
            texts[i] = new Law();
        }
        for (int i = 0; i < sheets.length; i++) {
            sheets[i] = new Sheet();
        }
        reader.write(FIRST_TEXT);
        reader.read(texts[0]);
        house = new House(texts[0]);
    }

    // ---- the law

    public int count(int what) {
        switch (what) {
            case 0: return house.size;
            case 1: return Integer.bitCount(house.fireplaces());
            case 2: return Integer.bitCount(house.pots());
            case 3: return textCount;
            case 4: return lawNumber;
            case 5: return reader.size;
            default: return BAD;
        }
    }

    public int feed(int n, int a, int b, int c, int d, int e) {
        if (!in(n, 1, 5) || !isByte(a) || !isByte(b) || !isByte(c) || !isByte(d) || !isByte(e)) {
            return BAD;
        }
        if (n > MOST_BYTES - reader.size) {
            return FULL;
        }
        for (int i = 0; i < n; i++) {
            reader.append(i == 0 ? a : i == 1 ? b : i == 2 ? c : i == 3 ? d : e);
        }
        return reader.size;
    }

    public int text() {
        Law next = textAt(textCount, MOST_TEXTS);
        if (next == null) {
            return FULL;
        }
        int fault = reader.read(next);
        if (fault != NONE) {
            return FAULT - fault;
        }
        textCount++;
        return textCount - 1;
    }

    public int force(int t) {
        Law law = textAt(t, textCount);
        if (law == null) {
            return BAD;
        }
        int was = lawNumber;
        lawNumber = t;
        house.law = law;
        return was;
    }

    public int asks(int part, int b, int heat, int wet) {
        Bit bit = house.bitAt(b);
        if (bit == null) {
            return NO_SUCH;
        }
        if (!in(part, ADDS, BURNS) || !in(heat, 0, 9) || !in(wet, 0, 9)) {
            return NO_NUMBER;
        }
        return house.law.says(part, bit, 10 * heat + wet);
    }

    // ---- bits, flues

    public int bit(int above, int kind, int longWide, int bendMore) {
        if (above != NONE && house.bitAt(above) == null) {
            return BAD;
        }
        if (!in(kind, BIT, CRACKED) || !in(longWide, 10, 69) || !in(bendMore, 0, 49)) {
            return BAD;
        }
        if (house.isFull()) {
            return FULL;
        }
        return house.add(new Bit(house.size, house.bitAt(above), kind, longWide, bendMore));
    }

    public int mend(int b, int kind, int more) {
        Bit bit = house.bitAt(b);
        if (bit == null) {
            return NO_SUCH;
        }
        if (!in(kind, BIT, CRACKED) || !in(more, 0, 9)) {
            return NO_NUMBER;
        }
        int was = bit.kind;
        bit.kind = kind;
        bit.more = more;
        return was;
    }

    public int lay(int b, int v) {
        Bit bit = house.bitAt(b);
        if (bit == null) {
            return NO_SUCH;
        }
        if (!in(v, 0, MOST_SOOT)) {
            return NO_NUMBER;
        }
        int was = bit.soot;
        bit.soot = v;
        return was;
    }

    public int told(int b, int what) {
        Bit bit = house.bitAt(b);
        if (bit == null) {
            return NO_SUCH;
        }
        switch (what) {
            case 0: return bit.kind;
            case 1: return numberOf(bit.above);
            case 2: return bit.rods;
            case 3: return bit.wide;
            case 4: return bit.bent;
            case 5: return bit.more;
            case 6: return bit.soot;
            case 7: return bit.isWide();
            case 8: return bit.leaks();
            default: return NO_NUMBER;
        }
    }

    public int all(int what) {
        switch (what) {
            case 0: return house.fireplaces();
            case 1: return house.pots();
            default: return BAD;
        }
    }

    public int flue(int b, int what) {
        Bit bit = house.bitAt(b);
        if (bit == null) {
            return NO_SUCH;
        }
        switch (what) {
            case 0: return numberOf(bit.last());
            case 1: return bit.bitsUp();
            case 2: return house.fireplacesUnder(bit);
            case 3: return bit.rodsUpTo(null);
            default: return NO_NUMBER;
        }
    }

    public int join(int f, int g) {
        Bit one = house.bitAt(f);
        Bit other = house.bitAt(g);
        if (one == null || other == null) {
            return NO_SUCH;
        }
        return numberOf(one.firstUpIn(other.bitsUp()));
    }

    // ---- rods and a brush

    public int rod(int f, int rods, int what) {
        Bit from = house.fireplaceAt(f);
        if (from == null) {
            return NO_SUCH;
        }
        if (!in(rods, 1, 60) || !in(what, 0, 1)) {
            return NO_NUMBER;
        }
        return what == 0 ? numberOf(from.reachedBy(rods)) : house.law.heavyBy(rods, from);
    }

    public int push(int f, int force, int what) {
        Bit from = house.fireplaceAt(f);
        if (from == null) {
            return NO_SUCH;
        }
        if (!in(force, 0, 99) || !in(what, 0, 1)) {
            return NO_NUMBER;
        }
        Bit stays = house.staysIn(from, force);
        return what == 0 ? numberOf(stays) : from.rodsUpTo(stays);
    }

    public int sweep(int f, int force) {
        Bit from = house.fireplaceAt(f);
        if (from == null) {
            return NO_SUCH;
        }
        if (!in(force, 0, 99)) {
            return NO_NUMBER;
        }
        return house.brush(from, force);
    }

    public int needs(int f) {
        Bit from = house.fireplaceAt(f);
        if (from == null) {
            return NO_SUCH;
        }
        int greatest = 0;
        for (Bit b = from; b != null; b = b.above) {
            if (b.isWide() == 0) {
                return NONE;
            }
            greatest = Math.max(greatest, house.law.says(HEAVY, b, NO_FIRE));
        }
        return greatest;
    }

    // ---- fires, smoke, draw

    public int fire(int f, int many, int heatWet) {
        Bit from = house.fireplaceAt(f);
        if (from == null) {
            return NO_SUCH;
        }
        if (!in(many, 1, 20) || !in(heatWet, 0, 99)) {
            return NO_NUMBER;
        }
        for (int n = 0; n < many; n++) {
            house.light(from, heatWet);
        }
        return from.sootUp();
    }

    public int smoke(int f, int b, int what) {
        Bit from = house.fireplaceAt(f);
        Bit asked = house.bitAt(b);
        if (from == null || asked == null) {
            return NO_SUCH;
        }
        if (!in(what, 0, 1)) {
            return NO_NUMBER;
        }
        int left = 1000;
        int goneThere = 0;
        for (Bit at = from; at != null; at = at.above) {
            int gone = left * at.leaks() / 100;
            left -= gone;
            if (at == asked) {
                goneThere = gone;
            }
        }
        return what == 0 ? goneThere : left;
    }

    public int draw(int f, int wind) {
        Bit from = house.fireplaceAt(f);
        if (from == null || !in(wind, 0, 99)) {
            return NO_DRAW;
        }
        return from.drawUp() - wind;
    }

    public int smokes(int wind) {
        if (!in(wind, 0, 99)) {
            return BAD;
        }
        int found = 0;
        for (int f = 0; f < MOST_BITS; f++) {
            Bit from = house.fireplaceAt(f);
            if (from != null && from.drawUp() < wind) {
                found |= 1 << f;
            }
        }
        return found;
    }

    // ---- when it burns, how often to sweep

    public long fine(int f, int many, int heatWet) {
        Bit from = house.fireplaceAt(f);
        if (from == null || !in(many, 0, MOST_FIRES) || !in(heatWet, 0, 99)) {
            return NO;
        }
        long fine = House.SURE;
        house.setSootAside();
        for (int n = 0; n < many; n++) {
            fine = house.fineBehindFire(fine, from, heatWet);
        }
        house.putSootBack();
        return fine;
    }

    public int when(int f, int heatWet, int hundredth) {
        Bit from = house.fireplaceAt(f);
        if (from == null) {
            return NO_SUCH;
        }
        if (!in(heatWet, 0, 99) || !in(hundredth, 0, 99)) {
            return NO_NUMBER;
        }
        long bound = (100 - hundredth) * 10000000L;
        long fine = House.SURE;
        int found = NONE;
        house.setSootAside();
        for (int n = 1; n <= MOST_FIRES && found == NONE; n++) {
            fine = house.fineBehindFire(fine, from, heatWet);
            if (fine < bound) {
                found = n;
            }
        }
        house.putSootBack();
        return found;
    }

    public int often(int f, int heatWet, int force, int line) {
        Bit from = house.fireplaceAt(f);
        if (from == null) {
            return NO_SUCH;
        }
        if (!in(heatWet, 0, 99) || !in(force, 0, 99) || !in(line, 0, MOST_SOOT)) {
            return NO_NUMBER;
        }
        for (int n = 24; n >= 1; n--) {
            house.setSootAside();
            boolean below = house.staysBelow(line, n, from, heatWet, force);
            house.putSootBack();
            if (below) {
                return n;
            }
        }
        return NONE;
    }

    public int round(int heatWet, int force, int what) {
        if (!in(heatWet, 0, 99) || !in(force, 0, 99) || !in(what, 0, 1)) {
            return BAD;
        }
        int best = house.bestRound(heatWet, force);
        return what == 0 ? best % House.ORDERS : best / House.ORDERS;
    }

    public int ball(int p, int size, int what) {
        Bit pot = house.bitAt(p);
        if (pot == null || pot.above != null) {
            return NO_SUCH;
        }
        if (!in(size, 0, 9) || !in(what, 0, 2)) {
            return NO_NUMBER;
        }
        Bit at = pot;
        Bit last = pot;
        int rods = 0;
        for (int i = 0; i < MOST_BITS && at != null && at.isWide() >= size; i++) {
            rods += at.rods;
            last = at;
            at = house.firstUnder(at);
        }
        if (what == 2) {
            return rods;
        }
        if (what == 0) {
            return numberOf(at);
        }
        return at == null ? last.number : NONE;
    }

    // ---- told rods

    public int judge(int s, int f) {
        Sheet sheet = sheetAt(s);
        if (sheet == null) {
            return BAD;
        }
        if (sheet.isMissing()) {
            return MISSING;
        }
        Bit from = house.fireplaceAt(f);
        return from == null ? NO_SUCH : sheet.otherwise(from, house.law);
    }

    public int whose(int s) {
        Sheet sheet = sheetAt(s);
        if (sheet == null) {
            return BAD;
        }
        if (sheet.isMissing()) {
            return MISSING;
        }
        int found = 0;
        for (int f = 0; f < MOST_BITS; f++) {
            Bit from = house.fireplaceAt(f);
            if (from != null && sheet.otherwise(from, house.law) == NONE) {
                found |= 1 << f;
            }
        }
        return found;
    }

    public int laws(int s, int f) {
        Sheet sheet = sheetAt(s);
        if (sheet == null) {
            return BAD;
        }
        if (sheet.isMissing()) {
            return MISSING;
        }
        Bit from = house.fireplaceAt(f);
        if (from == null) {
            return NO_SUCH;
        }
        int found = 0;
        for (int t = 0; t < MOST_TEXTS; t++) {
            Law law = textAt(t, textCount);
            if (law != null && sheet.otherwise(from, law) == NONE) {
                found |= 1 << t;
            }
        }
        return found;
    }

    public int blocked(int s, int f, int what) {
        Sheet sheet = sheetAt(s);
        if (sheet == null) {
            return BAD;
        }
        if (sheet.isMissing()) {
            return MISSING;
        }
        Bit from = house.fireplaceAt(f);
        if (from == null) {
            return NO_SUCH;
        }
        if (!in(what, 0, 1)) {
            return NO_NUMBER;
        }
        int first = NONE;
        int many = 0;
        for (Bit b = from; b != null; b = b.above) {
            for (int n = 1; n <= 9; n++) {
                if (sheet.tellsBlocked(b, n, from, house.law)) {
                    first = many == 0 ? 10 * b.number + n : first;
                    many++;
                }
            }
        }
        return what == 0 ? first : many;
    }

    public int film(int s, int f, int n) {
        Sheet sheet = sheetAt(s);
        if (sheet == null) {
            return BAD;
        }
        Bit from = house.fireplaceAt(f);
        if (from == null) {
            return NO_SUCH;
        }
        if (!in(n, 0, MOST_CELLS)) {
            return NO_NUMBER;
        }
        sheet.become(INTS, n);
        for (int i = 0; i < n; i++) {
            sheet.put(i, house.law.heavyBy(i + 1, from));
        }
        return n;
    }

    // ---- years by lot

    public int drawn(int seed, int f, int many, int heatWet) {
        Bit from = house.fireplaceAt(f);
        if (from == null) {
            return NO_SUCH;
        }
        if (!in(seed, 0, LAST_SEED) || !in(many, 0, MOST_FIRES) || !in(heatWet, 0, 99)) {
            return NO_NUMBER;
        }
        house.weighBurning(from, many, heatWet);
        return house.firstBurning(seed, from, many);
    }

    public long odds(int seed, int f, int many, int heatWet, int part) {
        Bit from = house.fireplaceAt(f);
        if (from == null || !in(seed, 0, LAST_SEED) || !in(many, 0, MOST_FIRES)) {
            return NO;
        }
        if (!in(heatWet, 0, 99) || !in(part, 0, 1)) {
            return NO;
        }
        house.weighBurning(from, many, heatWet);
        int above = 0;
        for (int i = 0; i < SEEDS; i++) {
            if (house.firstBurning(seed + i, from, many) == NONE) {
                above++;
            }
        }
        int below = SEEDS;
        for (int d = SEEDS; d > 1; d--) {
            if (above % d == 0 && below % d == 0) {
                above /= d;
                below /= d;
            }
        }
        return part == 0 ? above : below;
    }

    public int image() {
        house.keepImage();
        imageLaw = lawNumber;
        return house.size;
    }

    public int back() {
        Law law = textAt(imageLaw, textCount);
        if (law == null) {
            return STATE;
        }
        house.goBack();
        lawNumber = imageLaw;
        house.law = law;
        return house.size;
    }

    // ---- the host

    public int sheet(int s, int sort, int n) {
        Sheet sheet = sheetAt(s);
        if (sheet == null || !in(sort, MISSING_SORT, INTS)) {
            return BAD;
        }
        if (sort == MISSING_SORT) {
            sheet.become(MISSING_SORT, 0);
            return 1;
        }
        if (n > MOST_CELLS) {
            return BAD;
        }
        if (n < 0) {
            return BELOW_ZERO;
        }
        sheet.become(sort, n);
        return 1;
    }

    public int cell(int s, int i, int v) {
        Sheet sheet = sheetAt(s);
        if (sheet == null) {
            return BAD;
        }
        if (sheet.isMissing()) {
            return MISSING;
        }
        if (!sheet.has(i)) {
            return OUTSIDE;
        }
        sheet.put(i, v);
        return 1;
    }

    public int copy(int s, int i, int other, int j, int n) {
        Sheet from = sheetAt(s);
        Sheet to = sheetAt(other);
        if (from == null || to == null) {
            return BAD;
        }
        if (from.isMissing() || to.isMissing()) {
            return MISSING;
        }
        if (from.sort != to.sort) {
            return UNLIKE;
        }
        if (!from.hasRun(i, n) || !to.hasRun(j, n)) {
            return OUTSIDE;
        }
        System.arraycopy(from.cells, i, to.cells, j, n);
        return n;
    }

    public int bitsBy(int s, int sort, int at, int n) {
        Sheet sheet = sheetAt(s);
        if (sheet == null || !in(sort, BYTES, INTS) || !in(n, 0, MOST_BITS)) {
            return BAD;
        }
        if (sheet.isMissing()) {
            return MISSING;
        }
        if (sheet.sort != sort) {
            return UNLIKE;
        }
        int came = 0;
        int place = at;
        for (int k = 0; k < n; k++) {
            if (!sheet.hasRun(place, 4)) {
                return OUTSIDE;
            }
            int number = bit(sheet.get(place), sheet.get(place + 1), sheet.get(place + 2), sheet.get(place + 3));
            if (number >= 0) {
                came++;
            }
            place += 4;
        }
        return came;
    }

    public int taken(int i, int kind) {
        if (!in(kind, BIT, SOOT)) {
            return BAD;
        }
        if (!in(i, 0, 2 * MOST_BITS - 1)) {
            return OUTSIDE;
        }
        boolean isSoot = i >= MOST_BITS;
        Bit bit = house.bitAt(isSoot ? i - MOST_BITS : i);
        if (bit == null || isSoot && bit.soot == 0) {
            return MISSING;
        }
        if (isSoot) {
            return kind == SOOT ? bit.soot : UNLIKE;
        }
        return bit.isOne(kind) ? i : UNLIKE;
    }

    // ---- what the face needs

    private static boolean in(int v, int low, int high) {
        return low <= v && v <= high;
    }

    private static boolean isByte(int v) {
        return in(v, 0, 255);
    }

    private static int numberOf(Bit bit) {
        return bit == null ? NONE : bit.number;
    }

    /** One of the first so many texts, or null. */
    private Law textAt(int t, int many) {
        return t >= 0 && t < many && t < texts.length ? texts[t] : null;
    }

    private Sheet sheetAt(int s) {
        return s >= 0 && s < sheets.length ? sheets[s] : null;
    }

    /** A bit of a flue: what its kind makes of soot, brush, width and smoke; the chain of above is its flue. */
    private static final class Bit {
        final int number;
        final Bit above;
        final int rods, wide, bent;
        int kind, more, soot;
        int imageKind, imageMore, imageSoot;
        int sootAside;

        Bit(int number, Bit above, int kind, int longWide, int bendMore) {
            this.number = number;
            this.above = above;
            this.kind = kind;
            this.rods = longWide / 10;
            this.wide = longWide % 10;
            this.bent = bendMore / 10;
            this.more = bendMore % 10;
        }

        boolean isOne(int asked) {
            if (asked == BIT || asked == kind) {
                return true;
            }
            return (asked == SOOTY && kind == TARRED) || (asked == BLOCKED && kind == LOST);
        }

        int grows(int adds) {
            if (isOne(SOOTY)) {
                return adds + more;
            }
            return kind == CRACKED ? adds / 2 : adds;
        }

        int left() {
            if (kind == LOST) {
                return soot;
            }
            return kind == TARRED ? soot / 2 : 0;
        }

        int isWide() {
            if (kind != BLOCKED && kind != LOST) {
                return wide;
            }
            int is = Math.max(0, wide - more);
            return kind == LOST ? Math.max(0, is - soot / 10) : is;
        }

        int leaks() {
            return kind == CRACKED ? 10 * more : 0;
        }

        Bit last() {
            Bit last = this;
            for (Bit b = above; b != null; b = b.above) {
                last = b;
            }
            return last;
        }

        int bitsUp() {
            int bits = 0;
            for (Bit b = this; b != null; b = b.above) {
                bits |= 1 << b.number;
            }
            return bits;
        }

        Bit firstUpIn(int bits) {
            for (Bit b = this; b != null; b = b.above) {
                if ((bits & (1 << b.number)) != 0) {
                    return b;
                }
            }
            return null;
        }

        /** Rods of the bits ahead of end; of the whole flue, if end is null. */
        int rodsUpTo(Bit end) {
            int sum = 0;
            for (Bit b = this; b != null && b != end; b = b.above) {
                sum += b.rods;
            }
            return sum;
        }

        /** The bit that so many rods reach, or null: they are through. */
        Bit reachedBy(int many) {
            int passed = 0;
            for (Bit b = this; b != null; b = b.above) {
                passed += b.rods;
                if (many <= passed) {
                    return b;
                }
            }
            return null;
        }

        int sootUp() {
            int sum = 0;
            for (Bit b = this; b != null; b = b.above) {
                sum += b.soot;
            }
            return sum;
        }

        int mostSootUp() {
            int most = 0;
            for (Bit b = this; b != null; b = b.above) {
                most = Math.max(most, b.soot);
            }
            return most;
        }

        int drawUp() {
            int sum = 0;
            for (Bit b = this; b != null; b = b.above) {
                sum += 5 * b.rods - 2 * b.bent - (9 - b.isWide());
            }
            return sum;
        }
    }

    /** The bits of the house, and what fires and brushes do to them under the law in force. */
    private static final class House {
        static final long SURE = 1000000000L;
        /** Above every order of a round: an order has four digits at most. */
        static final int ORDERS = 10000;
        static final int MOST_IN_ROUND = 4;

        Law law;
        int size;
        private int imageSize;
        private final Bit[] bits = new Bit[MOST_BITS];
        private final Bit[] places = new Bit[MOST_IN_ROUND];
        private final Bit[] order = new Bit[MOST_IN_ROUND];
        private final int[] chances = new int[MOST_FIRES * MOST_BITS];

        House(Law law) {
            this.law = law;
        }

        Bit bitAt(int b) {
            return b >= 0 && b < size && b < bits.length ? bits[b] : null;
        }

        Bit fireplaceAt(int f) {
            Bit bit = bitAt(f);
            return bit == null || firstUnder(bit) != null ? null : bit;
        }

        /** The first of those that the bit is above, or null. */
        Bit firstUnder(Bit above) {
            for (int i = 0; i < bits.length; i++) {
                Bit bit = bitAt(i);
                if (bit != null && bit.above == above) {
                    return bit;
                }
            }
            return null;
        }

        boolean isFull() {
            return size < 0 || size >= bits.length;
        }

        int add(Bit bit) {
            if (isFull()) {
                return FULL;
            }
            bits[size] = bit;
            size++;
            return bit.number;
        }

        int fireplaces() {
            int found = 0;
            for (int f = 0; f < bits.length; f++) {
                if (fireplaceAt(f) != null) {
                    found |= 1 << f;
                }
            }
            return found;
        }

        int pots() {
            int found = 0;
            for (int i = 0; i < bits.length; i++) {
                Bit bit = bitAt(i);
                if (bit != null && bit.above == null) {
                    found |= 1 << i;
                }
            }
            return found;
        }

        int fireplacesUnder(Bit bit) {
            int found = 0;
            for (int f = 0; f < bits.length; f++) {
                Bit from = fireplaceAt(f);
                if (from != null && (from.bitsUp() & (1 << bit.number)) != 0) {
                    found |= 1 << f;
                }
            }
            return found;
        }

        /** Ahead of fires and sweeping in thought, which work on the bits themselves. */
        void setSootAside() {
            for (int i = 0; i < bits.length; i++) {
                Bit bit = bitAt(i);
                if (bit != null) {
                    bit.sootAside = bit.soot;
                }
            }
        }

        void putSootBack() {
            for (int i = 0; i < bits.length; i++) {
                Bit bit = bitAt(i);
                if (bit != null) {
                    bit.soot = bit.sootAside;
                }
            }
        }

        void keepImage() {
            imageSize = size;
            for (int i = 0; i < bits.length; i++) {
                Bit bit = bitAt(i);
                if (bit != null) {
                    bit.imageKind = bit.kind;
                    bit.imageMore = bit.more;
                    bit.imageSoot = bit.soot;
                }
            }
        }

        void goBack() {
            size = imageSize;
            for (int i = 0; i < bits.length; i++) {
                Bit bit = bitAt(i);
                if (bit != null) {
                    bit.kind = bit.imageKind;
                    bit.more = bit.imageMore;
                    bit.soot = bit.imageSoot;
                }
            }
        }

        /** One fire. */
        void light(Bit from, int heatWet) {
            for (Bit b = from; b != null; b = b.above) {
                int adds = law.says(ADDS, b, heatWet);
                b.soot = Math.min(MOST_SOOT, b.soot + b.grows(adds));
            }
        }

        /** The bit in which a brush stays, or null: it is through. */
        Bit staysIn(Bit from, int force) {
            for (Bit b = from; b != null; b = b.above) {
                if (b.isWide() == 0 || law.says(HEAVY, b, NO_FIRE) > force) {
                    return b;
                }
            }
            return null;
        }

        /** The flue is swept: how much soot went. */
        int brush(Bit from, int force) {
            Bit end = staysIn(from, force);
            int went = 0;
            for (Bit b = from; b != null && b != end; b = b.above) {
                int left = b.left();
                went += b.soot - left;
                b.soot = left;
            }
            return went;
        }

        long fineBehindFire(long fine, Bit from, int heatWet) {
            light(from, heatWet);
            long now = fine;
            for (Bit b = from; b != null; b = b.above) {
                now = now * (100 - law.says(BURNS, b, heatWet)) / 100;
            }
            return now;
        }

        /** Whether no soot passes the line in 24 fires, swept behind each n of them; n is above 0. */
        boolean staysBelow(int line, int n, Bit from, int heatWet, int force) {
            int unswept = 0;
            for (int i = 0; i < 24; i++) {
                light(from, heatWet);
                if (from.mostSootUp() > line) {
                    return false;
                }
                unswept++;
                if (unswept == n) {
                    brush(from, force);
                    unswept = 0;
                }
            }
            return true;
        }

        /** Keeps, fire by fire and bit by bit, how likely it burns: it is the same for all seeds. */
        void weighBurning(Bit from, int many, int heatWet) {
            int count = 0;
            setSootAside();
            for (int n = 0; n < many; n++) {
                light(from, heatWet);
                for (Bit b = from; b != null && count < chances.length; b = b.above) {
                    chances[count] = law.says(BURNS, b, heatWet);
                    count++;
                }
            }
            putSootBack();
        }

        /** Of the fires that were weighed last the first by which a lot is below a chance; -1: none. */
        int firstBurning(long seed, Bit from, int many) {
            long lot = seed + 1;
            int count = 0;
            for (int n = 1; n <= many; n++) {
                for (Bit b = from; b != null && count < chances.length; b = b.above) {
                    lot = lot * 48271 % 2147483647;
                    if (lot % 100 < chances[count]) {
                        return n;
                    }
                    count++;
                }
            }
            return NONE;
        }

        /** ORDERS times the least most soot, and the first order that has it; 0 without bits. */
        int bestRound(int heatWet, int force) {
            int many = gatherPlaces();
            if (many == 0) {
                return 0;
            }
            int codes = 1;
            for (int i = 0; i < many; i++) {
                codes *= many;
            }
            int best = ORDERS * (MOST_SOOT + 1);
            // The codes, read as digits, go through the orders from the first on: the first of like ones stays.
            for (int code = 0; code < codes; code++) {
                if (layOrder(code, many)) {
                    int most = mostSootInRound(many, heatWet, force);
                    if (most < best / ORDERS) {
                        best = ORDERS * most + orderAsDigits(many);
                    }
                }
            }
            return best;
        }

        private int gatherPlaces() {
            int many = 0;
            for (int f = 0; f < bits.length && many < places.length; f++) {
                Bit from = fireplaceAt(f);
                if (from != null) {
                    places[many] = from;
                    many++;
                }
            }
            return many;
        }

        /** The order becomes that of the code's digits to the base many; false: one stands in it twice. */
        private boolean layOrder(int code, int many) {
            int rest = code;
            int used = 0;
            for (int i = many - 1; i >= 0 && i < order.length && many > 0; i--) {
                int digit = rest % many;
                rest /= many;
                if ((used & (1 << digit)) != 0 || digit < 0 || digit >= places.length) {
                    return false;
                }
                used |= 1 << digit;
                order[i] = places[digit];
            }
            return true;
        }

        private int orderAsDigits(int many) {
            int digits = 0;
            for (int i = 0; i < many && i < order.length; i++) {
                digits = 10 * digits + numberOf(order[i]);
            }
            return digits;
        }

        private int mostSootInRound(int many, int heatWet, int force) {
            int most = 0;
            setSootAside();
            for (int week = 0; week < many && week < order.length; week++) {
                for (int i = 0; i < many && i < places.length; i++) {
                    light(places[i], heatWet);
                }
                most = Math.max(most, mostSoot());
                Bit swept = order[week];
                if (swept != null) {
                    brush(swept, force);
                }
            }
            putSootBack();
            return most;
        }

        private int mostSoot() {
            int most = 0;
            for (int i = 0; i < bits.length; i++) {
                Bit bit = bitAt(i);
                if (bit != null) {
                    most = Math.max(most, bit.soot);
                }
            }
            return most;
        }
    }

    /** The signs of a text, as tokens and as steps of a law. */
    private static final class Sign {
        static final int END = 0, WRONG = 1, NUMBER = 2, NAME = 3, KEY = 4;
        static final int OR = 5, AND = 6, NOT = 7, LESS = 8, LIKE = 9, PLUS = 10, MINUS = 11, TIMES = 12;
        static final int NEGATE = 13, OPEN = 14, CLOSE = 15, STOP = 16;
        /** Above every sign: a step is this times a value, and a sign. */
        static final int SIGNS = 32;
        /** Keys as parts are numbered, or, and, not as above, names as Law numbers them. */
        static final String WORDS = "adds heavy burns or and not soot wide bend more heat wet ";
        static final int FIRST_JOINER = 3, FIRST_NAME = 6, NAMES = 6;

        private Sign() {
        }

        /** How strongly a waiting sign binds; an open bracket, or none, not at all. */
        static int binds(int sign) {
            switch (sign) {
                case OR: return 1;
                case AND: return 2;
                case NOT: return 3;
                case LESS: case LIKE: return 4;
                case PLUS: case MINUS: return 5;
                case TIMES: return 6;
                case NEGATE: return 7;
                default: return 0;
            }
        }

        static boolean joinsTwo(int sign) {
            return sign == OR || sign == AND || sign >= LESS && sign <= TIMES;
        }

        static int ofByte(int b) {
            switch (b) {
                case '(': return OPEN;
                case ')': return CLOSE;
                case ';': return STOP;
                case '+': return PLUS;
                case '-': return MINUS;
                case '*': return TIMES;
                case '<': return LESS;
                case '=': return LIKE;
                default: return WRONG;
            }
        }
    }

    /** A text that has been read: steps for a row of values, those of a part up to its end. */
    private static final class Law {
        // Every step is of a token and a step lifts one value at most, so a tape's bytes are enough of both.
        private final int[] steps = new int[MOST_BYTES];
        private final int[] values = new int[MOST_BYTES];
        private final int[] ends = new int[BURNS + 1];
        private final int[] named = new int[Sign.NAMES];
        private int stepCount;

        void clear() {
            stepCount = 0;
        }

        void addStep(int sign, int value) {
            if (stepCount >= 0 && stepCount < steps.length) {
                steps[stepCount] = Sign.SIGNS * value + sign;
                stepCount++;
            }
        }

        void endPart(int part) {
            if (part >= 0 && part < ends.length) {
                ends[part] = stepCount;
            }
        }

        /** By so many rods up a fireplace how heavy; -1: they are through. */
        int heavyBy(int rods, Bit from) {
            Bit reached = from.reachedBy(rods);
            return reached == null ? NONE : says(HEAVY, reached, NO_FIRE);
        }

        int says(int part, Bit bit, int heatWet) {
            if (part < 0 || part >= ends.length) {
                return 0;
            }
            named[0] = bit.soot;
            named[1] = bit.isWide();
            named[2] = bit.bent;
            named[3] = bit.more;
            named[4] = heatWet / 10;
            named[5] = heatWet % 10;
            int count = 0;
            for (int i = part == 0 ? 0 : ends[part - 1]; i >= 0 && i < ends[part] && i < steps.length; i++) {
                count = step(steps[i] % Sign.SIGNS, steps[i] / Sign.SIGNS, count);
            }
            int said = count > 0 ? values[0] : 0;
            return Math.max(0, Math.min(part == BURNS ? 100 : 99, said));
        }

        /** A step on the first count values: how many there are then. */
        private int step(int sign, int value, int count) {
            if (sign == Sign.NUMBER || sign == Sign.NAME) {
                if (count < 0 || count >= values.length) {
                    return 0;
                }
                values[count] = sign == Sign.NUMBER || value < 0 || value >= named.length ? value : named[value];
                return count + 1;
            }
            int last = count - 1;
            if (last < 0 || last >= values.length) {
                return 0;
            }
            int right = values[last];
            if (sign == Sign.NEGATE || sign == Sign.NOT) {
                values[last] = sign == Sign.NEGATE ? -right : right == 0 ? 1 : 0;
                return count;
            }
            if (last == 0) {
                return 0;
            }
            values[last - 1] = joined(sign, values[last - 1], right);
            return last;
        }

        private static int joined(int sign, int left, int right) {
            switch (sign) {
                case Sign.OR: return left != 0 || right != 0 ? 1 : 0;
                case Sign.AND: return left != 0 && right != 0 ? 1 : 0;
                case Sign.LESS: return left < right ? 1 : 0;
                case Sign.LIKE: return left == right ? 1 : 0;
                case Sign.PLUS: return left + right;
                case Sign.MINUS: return left - right;
                default: return left * right;
            }
        }
    }

    /** The tape, and the reading of it: signs wait in a row until one comes that binds less. */
    private static final class Reader {
        int size;
        private final int[] tape = new int[MOST_BYTES];
        private int place;
        private int start, token, value;
        private final int[] waiting = new int[MOST_BYTES];
        private int waits;
        private int open;

        void append(int b) {
            if (size >= 0 && size < tape.length) {
                tape[size] = b;
                size++;
            }
        }

        void write(String bytes) {
            for (int i = 0; i < bytes.length(); i++) {
                append(bytes.charAt(i));
            }
        }

        /** The tape becomes a law, and is empty then: the place of its fault, -1: none. */
        int read(Law law) {
            law.clear();
            place = 0;
            boolean good = true;
            for (int part = ADDS; part <= BURNS && good; part++) {
                next();
                good = token == Sign.KEY && value == part && readSaying(law);
                law.endPart(part);
            }
            if (good) {
                next();
                good = token == Sign.END;
            }
            size = 0;
            return good ? NONE : start;
        }

        /** What a part says, and the ; behind it; false: a fault, at start. */
        private boolean readSaying(Law law) {
            waits = 0;
            open = 0;
            boolean due = true;
            // Each turn takes a token, and each token a byte at least.
            for (int i = 0; i <= MOST_BYTES; i++) {
                next();
                if (due) {
                    if (token == Sign.NUMBER || token == Sign.NAME) {
                        law.addStep(token, value);
                        due = false;
                    } else if (!opens()) {
                        return false;
                    }
                } else if (token == Sign.STOP) {
                    settle(1, law);
                    return waits == 0;
                } else if (token == Sign.CLOSE) {
                    if (!closes(law)) {
                        return false;
                    }
                } else if (joins(law)) {
                    due = true;
                } else {
                    return false;
                }
            }
            return false;
        }

        /** A not, a - or a ( where a value is due. */
        private boolean opens() {
            int sign = token == Sign.MINUS ? Sign.NEGATE : token;
            if (sign != Sign.NEGATE && sign != Sign.OPEN && sign != Sign.NOT) {
                return false;
            }
            if (sign == Sign.NOT && Sign.binds(lastWaiting()) > Sign.binds(Sign.NOT)) {
                return false;
            }
            if (open >= MOST_OPEN) {
                return false;
            }
            open++;
            await(sign);
            return true;
        }

        private boolean closes(Law law) {
            settle(1, law);
            if (lastWaiting() != Sign.OPEN) {
                return false;
            }
            waits--;
            open--;
            return true;
        }

        /** A sign between two values. */
        private boolean joins(Law law) {
            if (!Sign.joinsTwo(token)) {
                return false;
            }
            int binds = Sign.binds(token);
            if (token != Sign.LESS && token != Sign.LIKE) {
                settle(binds, law);
                await(token);
                return true;
            }
            // Comparisons don't follow one another, so one that waits forbids the next.
            settle(binds + 1, law);
            if (Sign.binds(lastWaiting()) == binds) {
                return false;
            }
            await(token);
            return true;
        }

        /** Waiting signs that bind so much or more become steps, the last one first. */
        private void settle(int binds, Law law) {
            for (int i = waits; i > 0 && Sign.binds(lastWaiting()) >= binds; i--) {
                int sign = lastWaiting();
                if (sign == Sign.NOT || sign == Sign.NEGATE) {
                    open--;
                }
                law.addStep(sign, 0);
                waits--;
            }
        }

        private int lastWaiting() {
            return waits > 0 && waits <= waiting.length ? waiting[waits - 1] : Sign.END;
        }

        private void await(int sign) {
            if (waits >= 0 && waits < waiting.length) {
                waiting[waits] = sign;
                waits++;
            }
        }

        /** The next token; its first byte is at start. */
        private void next() {
            skipBlanks();
            start = place;
            value = 0;
            int b = byteAt(place);
            if (b < 0) {
                token = Sign.END;
            } else if (isLetter(b)) {
                readWord();
            } else if (isDigit(b)) {
                readNumber();
            } else {
                place++;
                token = Sign.ofByte(b);
            }
        }

        private void skipBlanks() {
            for (int i = 0; i < MOST_BYTES && (byteAt(place) == 32 || byteAt(place) == 10); i++) {
                place++;
            }
        }

        private void readNumber() {
            for (int i = 0; i < MOST_BYTES && isDigit(byteAt(place)); i++) {
                value = 10 * value + byteAt(place) - '0';
                place++;
            }
            token = place - start > 4 ? Sign.WRONG : Sign.NUMBER;
        }

        private void readWord() {
            for (int i = 0; i < MOST_BYTES && isLetter(byteAt(place)); i++) {
                place++;
            }
            int word = wordNumber();
            if (word < 0) {
                token = Sign.WRONG;
            } else if (word < Sign.FIRST_JOINER) {
                token = Sign.KEY;
                value = word;
            } else if (word < Sign.FIRST_NAME) {
                token = Sign.OR + word - Sign.FIRST_JOINER;
            } else {
                token = Sign.NAME;
                value = word - Sign.FIRST_NAME;
            }
        }

        /** Which of the words stands from start to place; -1: none of them. */
        private int wordNumber() {
            int number = 0;
            int length = 0;
            boolean same = true;
            for (int i = 0; i < Sign.WORDS.length(); i++) {
                if (Sign.WORDS.charAt(i) != ' ') {
                    same = same && Sign.WORDS.charAt(i) == byteAt(start + length);
                    length++;
                } else if (same && length == place - start) {
                    return number;
                } else {
                    number++;
                    length = 0;
                    same = true;
                }
            }
            return NONE;
        }

        private int byteAt(int at) {
            return at >= 0 && at < size && at < tape.length ? tape[at] : -1;
        }

        private static boolean isLetter(int b) {
            return b >= 'a' && b <= 'z';
        }

        private static boolean isDigit(int b) {
            return b >= '0' && b <= '9';
        }
    }

    /** A row of the host's: of bytes, shorts or ints, or missing. */
    private static final class Sheet {
        int sort = MISSING_SORT;
        private int size;
        final int[] cells = new int[MOST_CELLS];

        boolean isMissing() {
            return sort == MISSING_SORT;
        }

        boolean has(int i) {
            return i >= 0 && i < size && i < cells.length;
        }

        /** Whether n numbers from i on are all inside; none are, up to the end. */
        boolean hasRun(int i, int n) {
            return i >= 0 && n >= 0 && i <= size && n <= size - i;
        }

        void become(int newSort, int n) {
            sort = newSort;
            size = Math.max(0, Math.min(n, cells.length));
            for (int i = 0; i < cells.length; i++) {
                cells[i] = 0;
            }
        }

        int get(int i) {
            return has(i) ? cells[i] : 0;
        }

        void put(int i, int v) {
            if (has(i)) {
                cells[i] = sort == BYTES ? (byte) v : sort == SHORTS ? (short) v : v;
            }
        }

        /** The first rod by which it tells otherwise than it is up a fireplace by a law; -1: none. */
        int otherwise(Bit from, Law law) {
            for (int i = 0; i < size; i++) {
                if (get(i) != law.heavyBy(i + 1, from)) {
                    return i + 1;
                }
            }
            return NONE;
        }

        boolean tellsBlocked(Bit bit, int more, Bit from, Law law) {
            int kindWas = bit.kind;
            int moreWas = bit.more;
            bit.kind = BLOCKED;
            bit.more = more;
            boolean tells = otherwise(from, law) == NONE;
            bit.kind = kindWas;
            bit.more = moreWas;
            return tells;
        }
    }
}
