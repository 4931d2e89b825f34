/** A yard where stone is cut. */
public final class StonecutterYard {
    private static final int NONE = -1;
    private static final int MOST_SLABS = 40;
    private static final int SLABS_OF_CUT = 2;
    private static final int SLABS_OF_STONE = 4;
    private static final int MOST_FLAWS = 6;
    private static final int MOST_KINDS = 6;
    private static final int MOST_LET = 3;
    private static final int MOST_WANTED = 20;
    private static final int MOST_PLANNED = 20;
    private static final int LONGEST = 24;
    private static final int WIDEST_KERF = 2;
    private static final int DEAREST = 999;
    private static final int MANNERS = 2;
    private static final int GRAINS = 2;
    private static final int WAYS = 3;
    private static final int EITHER_WAY = 0;
    private static final int ALONG_GRAIN = 1;
    private static final int THERE = 0;
    private static final int CUT = 1;
    private static final int TAKEN = 2;
    private static final int THROWN = 3;
    private static final int ACROSS = 100;
    private static final int TABLE_ROW = LONGEST + 1;

    private final Stock stock = new Stock();
    // What would be is tried here, so that the stock itself stays as it is.
    private final Stock trial = new Stock();
    private final Saw saw = new Saw();

    public StonecutterYard() {
    }

    // ---- slabs

    public int slab(int wide, int high, int grain) throws IllegalArgumentException, IllegalStateException {
        requirePiece(wide, high, grain);
        if (stock.slabCount >= MOST_SLABS) {
            throw new IllegalStateException("there were 40 slabs");
        }
        int number = stock.slabCount;
        stock.addSlab(wide, high, grain, NONE);
        return number;
    }

    public int flaw(int slab, int x, int y) throws IndexOutOfBoundsException, IllegalStateException {
        Slab it = slabOf(slab);
        requirePoint(it, x, y);
        if (it.state != THERE || it.flawCount >= MOST_FLAWS) {
            throw new IllegalStateException("the slab is gone, or has 6 flaws");
        }
        it.addFlaw(x, y);
        return it.flawCount;
    }

    public int kerf(int kerf) throws IllegalArgumentException {
        if (kerf < 0 || kerf > WIDEST_KERF) {
            throw new IllegalArgumentException("the kerf is 0 to 2");
        }
        int before = stock.kerf;
        stock.kerf = kerf;
        return before;
    }

    public int cut(int slab, boolean isDown, int place)
            throws IndexOutOfBoundsException, IllegalArgumentException, IllegalStateException {
        Slab it = slabOf(slab);
        if (!stock.canCut(it, isDown, place)) {
            throw new IllegalArgumentException("it cannot be cut so");
        }
        if (it.state != THERE || stock.slabCount > MOST_SLABS - SLABS_OF_CUT) {
            throw new IllegalStateException("the slab is gone, or there were more than 38");
        }
        return stock.cutSlab(slab, isDown, place);
    }

    public int toss(int slab) throws IndexOutOfBoundsException, IllegalStateException {
        Slab it = slabOf(slab);
        if (it.state != THERE) {
            throw new IllegalStateException("the slab is gone");
        }
        it.state = THROWN;
        return it.area();
    }

    public int ofSlab(int slab, int what) throws IndexOutOfBoundsException, IllegalArgumentException {
        Slab it = slabOf(slab);
        switch (what) {
            case 0:
                return it.wide;
            case 1:
                return it.high;
            case 2:
                return it.grain;
            case 3:
                return it.flawCount;
            case 4:
                return it.from;
            case 5:
                return it.state;
            default:
                throw new IllegalArgumentException("what is 0 to 5");
        }
    }

    public int flawsAt(int slab, int x, int y) throws IndexOutOfBoundsException {
        Slab it = slabOf(slab);
        requirePoint(it, x, y);
        return it.countFlaws(x, y, x + 1, y + 1);
    }

    public int root(int slab) throws IndexOutOfBoundsException {
        int number = slab;
        Slab it = slabOf(slab);
        for (int step = 0; step < MOST_SLABS && it.from != NONE; step++) {
            number = it.from;
            it = slabOf(number);
        }
        return number;
    }

    // ---- kinds

    public int kind(int length, int breadth, int price) throws IllegalArgumentException, IllegalStateException {
        if (!isSide(length) || !isSide(breadth) || !isPrice(price)) {
            throw new IllegalArgumentException("length and breadth are 1 to 24, price is 1 to 999");
        }
        if (stock.kindCount >= MOST_KINDS) {
            throw new IllegalStateException("there are 6 kinds");
        }
        int number = stock.kindCount;
        stock.addKind(length, breadth, price);
        return number;
    }

    public int let(int kind, int way, int flaws) throws IndexOutOfBoundsException, IllegalArgumentException {
        Kind it = kindOf(kind);
        if (way < 0 || way >= WAYS || flaws < 0 || flaws > MOST_LET) {
            throw new IllegalArgumentException("way is 0 to 2, flaws is 0 to 3");
        }
        int before = it.way;
        it.way = way;
        it.flawsLet = flaws;
        return before;
    }

    public int order(int kind, int many) throws IndexOutOfBoundsException, IllegalArgumentException {
        Kind it = kindOf(kind);
        if (many < 1 || many > MOST_WANTED - it.wanted) {
            throw new IllegalArgumentException("many is 1 or more, and 20 are wanted at most");
        }
        it.wanted += many;
        return it.wanted;
    }

    public int ofKind(int kind, int what) throws IndexOutOfBoundsException, IllegalArgumentException {
        Kind it = kindOf(kind);
        switch (what) {
            case 0:
                return it.length;
            case 1:
                return it.breadth;
            case 2:
                return it.way;
            case 3:
                return it.flawsLet;
            case 4:
                return it.price;
            case 5:
                return it.wanted;
            case 6:
                return it.taken;
            case 7:
                return it.paid;
            default:
                throw new IllegalArgumentException("what is 0 to 7");
        }
    }

    public int fits(int slab, int kind) throws IndexOutOfBoundsException {
        return slabOf(slab).firstManner(kindOf(kind));
    }

    public int take(int slab, int kind) throws IndexOutOfBoundsException, IllegalStateException {
        int manner = slabOf(slab).firstManner(kindOf(kind));
        if (manner == NONE || !stock.hasRoomForStone()) {
            throw new IllegalStateException("it does not fit, or there were more than 36 slabs");
        }
        return stock.takeStone(slab, kind);
    }

    public int plan(int most) throws IllegalArgumentException {
        requireMost(most);
        return stock.takeByPlan(most);
    }

    public int many(int what) throws IllegalArgumentException {
        switch (what) {
            case 0:
                return stock.slabCount;
            case 1:
                return stock.countThere();
            case 2:
                return stock.kindCount;
            case 3:
                return stock.countTaken();
            case 4:
                return stock.sumPaid();
            case 5:
                return stock.waste();
            case 6:
                return stock.countWanted();
            case 7:
                return stock.areaThere();
            default:
                throw new IllegalArgumentException("what is 0 to 7");
        }
    }

    public double meanArea() {
        int there = stock.countThere();
        return there == 0 ? 0.0 : (double) stock.areaThere() / there;
    }

    // ---- worth, and what would be (nothing is changed)

    public int worth(int wide, int high, int grain) throws IllegalArgumentException {
        requirePiece(wide, high, grain);
        saw.measure(stock, wide, high, grain);
        return saw.worthOf(wide, high);
    }

    public int bestCut(int wide, int high, int grain) throws IllegalArgumentException {
        requirePiece(wide, high, grain);
        saw.measure(stock, wide, high, grain);
        return saw.cutOf(wide, high);
    }

    public int column(int wide, int high, int grain, int kind)
            throws IndexOutOfBoundsException, IllegalArgumentException {
        kindOf(kind);
        requirePiece(wide, high, grain);
        saw.measure(stock, wide, high, grain);
        return saw.countStones(wide, high, kind);
    }

    public int worthMore(int kind, int price) throws IndexOutOfBoundsException, IllegalArgumentException {
        kindOf(kind);
        if (!isPrice(price)) {
            throw new IllegalArgumentException("price is 1 to 999");
        }
        trial.copyFrom(stock);
        trial.setPrice(kind, price);
        return worthOfAll(trial) - worthOfAll(stock);
    }

    public int wasteBy(int slab, int kind) throws IndexOutOfBoundsException {
        if (slabOf(slab).firstManner(kindOf(kind)) == NONE) {
            return NONE;
        }
        trial.copyFrom(stock);
        trial.takeStone(slab, kind);
        return trial.waste();
    }

    public int planPays(int most) throws IllegalArgumentException {
        requireMost(most);
        trial.copyFrom(stock);
        trial.takeByPlan(most);
        return trial.sumPaid() - stock.sumPaid();
    }

    public long digest() {
        long d = 58105L;
        for (int what = 0; what <= 7; what++) {
            d = d * 31 + many(what);
        }
        for (int slab = 0; slab < stock.slabCount; slab++) {
            for (int what = 0; what <= 5; what++) {
                d = d * 31 + ofSlab(slab, what);
            }
            for (int kind = 0; kind < stock.kindCount; kind++) {
                d = d * 31 + fits(slab, kind);
            }
        }
        for (int kind = 0; kind < stock.kindCount; kind++) {
            for (int what = 0; what <= 7; what++) {
                d = d * 31 + ofKind(kind, what);
            }
        }
        d = d * 31 + worth(12, 9, 0);
        d = d * 31 + bestCut(12, 9, 0);
        return d * 31 + planPays(3);
    }

    private int worthOfAll(Stock of) {
        int sum = 0;
        for (int grain = 0; grain < GRAINS; grain++) {
            saw.measure(of, of.longestThere(grain, true), of.longestThere(grain, false), grain);
            for (int number = 0; number < of.slabCount; number++) {
                Slab it = of.slabOrNull(number);
                if (it != null && it.state == THERE && it.grain == grain) {
                    sum += saw.worthOf(it.wide, it.high);
                }
            }
        }
        return sum;
    }

    private Slab slabOf(int number) {
        Slab it = stock.slabOrNull(number);
        if (it == null) {
            throw new IndexOutOfBoundsException("there is no such slab");
        }
        return it;
    }

    private Kind kindOf(int number) {
        Kind it = stock.kindOrNull(number);
        if (it == null) {
            throw new IndexOutOfBoundsException("there is no such kind");
        }
        return it;
    }

    private static void requirePoint(Slab it, int x, int y) {
        if (x < 0 || x >= it.wide || y < 0 || y >= it.high) {
            throw new IndexOutOfBoundsException("there is no such point");
        }
    }

    private static void requirePiece(int wide, int high, int grain) {
        if (!isSide(wide) || !isSide(high) || grain < 0 || grain >= GRAINS) {
            throw new IllegalArgumentException("wide and high are 1 to 24, grain is 0 or 1");
        }
    }

    private static void requireMost(int most) {
        if (most < 1 || most > MOST_PLANNED) {
            throw new IllegalArgumentException("most is 1 to 20");
        }
    }

    private static boolean isSide(int length) {
        return length >= 1 && length <= LONGEST;
    }

    private static boolean isPrice(int price) {
        return price >= 1 && price <= DEAREST;
    }

    private static final class Slab {
        private int wide;
        private int high;
        private int grain;
        private int from;
        private int state;
        private int flawCount;
        // One number a flaw, x * LONGEST + y, as a flaw is only ever put and read whole.
        private final int[] points = new int[MOST_FLAWS];

        void begin(int newWide, int newHigh, int newGrain, int newFrom) {
            wide = newWide;
            high = newHigh;
            grain = newGrain;
            from = newFrom;
            state = THERE;
            flawCount = 0;
        }

        void copyFrom(Slab other) {
            begin(other.wide, other.high, other.grain, other.from);
            state = other.state;
            other.passFlaws(this, 0, 0);
        }

        int area() {
            return wide * high;
        }

        int along(boolean isDown) {
            return isDown ? wide : high;
        }

        void addFlaw(int x, int y) {
            if (flawCount >= 0 && flawCount < points.length) {
                points[flawCount] = x * LONGEST + y;
                flawCount++;
            }
        }

        void passFlaws(Slab part, int left, int top) {
            for (int i = 0; i < flawCount && i < points.length; i++) {
                int x = points[i] / LONGEST - left;
                int y = points[i] % LONGEST - top;
                if (x >= 0 && x < part.wide && y >= 0 && y < part.high) {
                    part.addFlaw(x, y);
                }
            }
        }

        int countFlaws(int left, int top, int right, int bottom) {
            int count = 0;
            for (int i = 0; i < flawCount && i < points.length; i++) {
                int x = points[i] / LONGEST;
                int y = points[i] % LONGEST;
                if (x >= left && x < right && y >= top && y < bottom) {
                    count++;
                }
            }
            return count;
        }

        int firstManner(Kind kind) {
            for (int manner = 0; manner < MANNERS && state == THERE; manner++) {
                if (kind.goesInto(manner, wide, high, grain)
                        && countFlaws(0, 0, kind.wideIn(manner), kind.highIn(manner)) <= kind.flawsLet) {
                    return manner;
                }
            }
            return NONE;
        }
    }

    private static final class Kind {
        private int length;
        private int breadth;
        private int way;
        private int flawsLet;
        private int price;
        private int wanted;
        private int taken;
        private int paid;

        void begin(int newLength, int newBreadth, int newPrice) {
            length = newLength;
            breadth = newBreadth;
            price = newPrice;
        }

        void copyFrom(Kind other) {
            begin(other.length, other.breadth, other.price);
            way = other.way;
            flawsLet = other.flawsLet;
            wanted = other.wanted;
            taken = other.taken;
            paid = other.paid;
        }

        int wideIn(int manner) {
            return manner == 0 ? length : breadth;
        }

        int highIn(int manner) {
            return manner == 0 ? breadth : length;
        }

        boolean goesInto(int manner, int wide, int high, int grain) {
            // Manner and grain are both 0 for along the width and 1 for along the height.
            boolean isAlong = manner == grain;
            boolean isAllowed = way == EITHER_WAY || (way == ALONG_GRAIN) == isAlong;
            if (manner == 0) {
                return isAllowed && length <= wide && breadth <= high;
            }
            return isAllowed && breadth <= wide && length <= high;
        }

        boolean goesInto(int wide, int high, int grain) {
            return goesInto(0, wide, high, grain) || goesInto(1, wide, high, grain);
        }

        int sell() {
            int pay = wanted > 0 ? price : price / 4;
            wanted = Math.max(0, wanted - 1);
            taken++;
            paid += pay;
            price = Math.max(1, price * 9 / 10);
            return pay;
        }

        void becomeDearer() {
            price = Math.min(DEAREST, price + 1);
        }
    }

    private static final class Stock {
        // Some more than there can ever be, as a trial may take a stone when the yard is full.
        private final Slab[] slabs = new Slab[MOST_SLABS + SLABS_OF_STONE];
        private final Kind[] kinds = new Kind[MOST_KINDS];
        private int slabCount;
        private int kindCount;
        private int kerf = 1;

        Stock() {
            for (int i = 0; i < slabs.length; i++) {
                slabs[i] = new Slab();
            }
            for (int i = 0; i < kinds.length; i++) {
                kinds[i] = new Kind();
            }
        }

        void copyFrom(Stock other) {
            kerf = other.kerf;
            slabCount = other.slabCount;
            kindCount = other.kindCount;
            for (int number = 0; number < slabCount; number++) {
                Slab theirs = other.slabOrNull(number);
                Slab ours = slabOrNull(number);
                if (theirs != null && ours != null) {
                    ours.copyFrom(theirs);
                }
            }
            for (int number = 0; number < kindCount; number++) {
                Kind theirs = other.kindOrNull(number);
                Kind ours = kindOrNull(number);
                if (theirs != null && ours != null) {
                    ours.copyFrom(theirs);
                }
            }
        }

        Slab slabOrNull(int number) {
            return number >= 0 && number < slabCount && number < slabs.length ? slabs[number] : null;
        }

        Kind kindOrNull(int number) {
            return number >= 0 && number < kindCount && number < kinds.length ? kinds[number] : null;
        }

        Slab addSlab(int wide, int high, int grain, int from) {
            if (slabCount >= slabs.length) {
                return null;
            }
            slabCount++;
            Slab added = slabOrNull(slabCount - 1);
            if (added != null) {
                added.begin(wide, high, grain, from);
            }
            return added;
        }

        void addKind(int length, int breadth, int price) {
            if (kindCount >= kinds.length) {
                return;
            }
            kindCount++;
            Kind added = kindOrNull(kindCount - 1);
            if (added != null) {
                added.begin(length, breadth, price);
            }
        }

        void setPrice(int number, int price) {
            Kind kind = kindOrNull(number);
            if (kind != null) {
                kind.price = price;
            }
        }

        boolean canCut(Slab slab, boolean isDown, int place) {
            // The place is looked at first, so that the difference cannot wrap around.
            return place >= 1 && slab.along(isDown) - place - kerf >= 1;
        }

        boolean hasRoomForStone() {
            return slabCount <= MOST_SLABS - SLABS_OF_STONE;
        }

        int cutSlab(int number, boolean isDown, int place) {
            Slab slab = slabOrNull(number);
            if (slab == null || !canCut(slab, isDown, place)) {
                return number;
            }
            int first = slabCount;
            int after = place + kerf;
            Slab near;
            Slab far;
            if (isDown) {
                near = addSlab(place, slab.high, slab.grain, number);
                far = addSlab(slab.wide - after, slab.high, slab.grain, number);
            } else {
                near = addSlab(slab.wide, place, slab.grain, number);
                far = addSlab(slab.wide, slab.high - after, slab.grain, number);
            }
            slab.state = CUT;
            if (near != null && far != null) {
                slab.passFlaws(near, 0, 0);
                slab.passFlaws(far, isDown ? after : 0, isDown ? 0 : after);
            }
            return first;
        }

        int takeStone(int slabNumber, int kindNumber) {
            Slab slab = slabOrNull(slabNumber);
            Kind kind = kindOrNull(kindNumber);
            if (slab == null || kind == null) {
                return 0;
            }
            int manner = slab.firstManner(kind);
            if (manner == NONE) {
                return 0;
            }
            int stone = cutSlab(slabNumber, true, kind.wideIn(manner));
            stone = cutSlab(stone, false, kind.highIn(manner));
            Slab taken = slabOrNull(stone);
            if (taken != null) {
                taken.state = TAKEN;
            }
            int pay = kind.sell();
            raiseOthers(kindNumber);
            return pay;
        }

        private void raiseOthers(int sold) {
            for (int number = 0; number < kindCount; number++) {
                Kind other = kindOrNull(number);
                if (other != null && number != sold && other.wanted > 0) {
                    other.becomeDearer();
                }
            }
        }

        int takeByPlan(int most) {
            int count = 0;
            for (int i = 0; i < most && hasRoomForStone(); i++) {
                int slabNumber = nextPlannedSlab();
                if (slabNumber == NONE) {
                    break;
                }
                takeStone(slabNumber, dearestWanted(slabNumber));
                count++;
            }
            return count;
        }

        private int nextPlannedSlab() {
            int next = NONE;
            int nextPrice = 0;
            int nextArea = 0;
            for (int number = 0; number < slabCount; number++) {
                Slab slab = slabOrNull(number);
                Kind kind = kindOrNull(dearestWanted(number));
                if (slab != null && kind != null && (kind.price > nextPrice
                        || kind.price == nextPrice && slab.area() < nextArea)) {
                    next = number;
                    nextPrice = kind.price;
                    nextArea = slab.area();
                }
            }
            return next;
        }

        private int dearestWanted(int slabNumber) {
            Slab slab = slabOrNull(slabNumber);
            int dearest = NONE;
            int price = 0;
            for (int number = 0; number < kindCount; number++) {
                Kind kind = kindOrNull(number);
                if (slab != null && kind != null && kind.wanted > 0 && kind.price > price
                        && slab.firstManner(kind) != NONE) {
                    dearest = number;
                    price = kind.price;
                }
            }
            return dearest;
        }

        int dearestStone(int wide, int high, int grain) {
            int dearest = NONE;
            int price = 0;
            for (int number = 0; number < kindCount; number++) {
                Kind kind = kindOrNull(number);
                if (kind != null && kind.price > price && kind.goesInto(wide, high, grain)) {
                    dearest = number;
                    price = kind.price;
                }
            }
            return dearest;
        }

        int longestThere(int grain, boolean isDown) {
            int longest = 0;
            for (int number = 0; number < slabCount; number++) {
                Slab slab = slabOrNull(number);
                if (slab != null && slab.state == THERE && slab.grain == grain) {
                    longest = Math.max(longest, slab.along(isDown));
                }
            }
            return longest;
        }

        int countThere() {
            int count = 0;
            for (int number = 0; number < slabCount; number++) {
                Slab slab = slabOrNull(number);
                if (slab != null && slab.state == THERE) {
                    count++;
                }
            }
            return count;
        }

        int areaThere() {
            int area = 0;
            for (int number = 0; number < slabCount; number++) {
                Slab slab = slabOrNull(number);
                if (slab != null && slab.state == THERE) {
                    area += slab.area();
                }
            }
            return area;
        }

        private int areaFromNone() {
            int area = 0;
            for (int number = 0; number < slabCount; number++) {
                Slab slab = slabOrNull(number);
                if (slab != null && slab.from == NONE) {
                    area += slab.area();
                }
            }
            return area;
        }

        int waste() {
            int waste = areaFromNone() - areaThere();
            for (int number = 0; number < kindCount; number++) {
                Kind kind = kindOrNull(number);
                if (kind != null) {
                    waste -= kind.taken * kind.length * kind.breadth;
                }
            }
            return waste;
        }

        int countTaken() {
            int count = 0;
            for (int number = 0; number < kindCount; number++) {
                Kind kind = kindOrNull(number);
                count += kind == null ? 0 : kind.taken;
            }
            return count;
        }

        int countWanted() {
            int count = 0;
            for (int number = 0; number < kindCount; number++) {
                Kind kind = kindOrNull(number);
                count += kind == null ? 0 : kind.wanted;
            }
            return count;
        }

        int sumPaid() {
            int sum = 0;
            for (int number = 0; number < kindCount; number++) {
                Kind kind = kindOrNull(number);
                sum += kind == null ? 0 : kind.paid;
            }
            return sum;
        }
    }

    /** Tables over all pieces up to the one that was measured last, at wide * TABLE_ROW + high. */
    private static final class Saw {
        private final int[] worths = new int[TABLE_ROW * TABLE_ROW];
        private final int[] cuts = new int[TABLE_ROW * TABLE_ROW];
        private final int[] stones = new int[TABLE_ROW * TABLE_ROW];
        private final int[] counts = new int[TABLE_ROW * TABLE_ROW];
        private int kerf;

        void measure(Stock stock, int wide, int high, int grain) {
            kerf = stock.kerf;
            for (int w = 1; w <= wide && w <= LONGEST; w++) {
                for (int h = 1; h <= high && h <= LONGEST; h++) {
                    int stone = stock.dearestStone(w, h, grain);
                    Kind kind = stock.kindOrNull(stone);
                    measurePiece(w, h, stone, kind == null ? 0 : kind.price);
                }
            }
        }

        private void measurePiece(int wide, int high, int stone, int price) {
            int worth = price;
            int cut = NONE;
            // A cut beyond the middle has the same two parts as one ahead of it, which comes first.
            int lastDown = (wide - kerf) / 2;
            int lastAcross = (high - kerf) / 2;
            for (int place = 1; place <= lastDown; place++) {
                int both = worthOf(place, high) + worthOf(wide - kerf - place, high);
                if (both > worth) {
                    worth = both;
                    cut = place;
                }
            }
            for (int place = 1; place <= lastAcross; place++) {
                int both = worthOf(wide, place) + worthOf(wide, high - kerf - place);
                if (both > worth) {
                    worth = both;
                    cut = ACROSS + place;
                }
            }
            write(worths, wide, high, worth);
            write(cuts, wide, high, cut);
            write(stones, wide, high, cut == NONE ? stone : NONE);
        }

        int worthOf(int wide, int high) {
            return read(worths, wide, high);
        }

        int cutOf(int wide, int high) {
            return read(cuts, wide, high);
        }

        int countStones(int wide, int high, int kind) {
            for (int w = 1; w <= wide && w <= LONGEST; w++) {
                for (int h = 1; h <= high && h <= LONGEST; h++) {
                    write(counts, w, h, countInPiece(w, h, kind));
                }
            }
            return read(counts, wide, high);
        }

        private int countInPiece(int wide, int high, int kind) {
            int cut = cutOf(wide, high);
            if (cut == NONE) {
                return read(stones, wide, high) == kind ? 1 : 0;
            }
            if (cut < ACROSS) {
                return read(counts, cut, high) + read(counts, wide - kerf - cut, high);
            }
            int place = cut - ACROSS;
            return read(counts, wide, place) + read(counts, wide, high - kerf - place);
        }

        private static int read(int[] table, int wide, int high) {
            int at = wide * TABLE_ROW + high;
            return at >= 0 && at < table.length ? table[at] : 0;
        }

        private static void write(int[] table, int wide, int high, int value) {
            int at = wide * TABLE_ROW + high;
            if (at >= 0 && at < table.length) {
                table[at] = value;
            }
        }
    }
}
