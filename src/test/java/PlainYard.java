import java.util.ArrayList;
import java.util.HashMap;
import java.util.List;
import java.util.Map;

/** A second reading of the document, as near to its words as it goes, with no heed of speed or room. */
final class PlainYard {
    private static final int NONE = -1;

    private record Point(int x, int y) {
    }

    private static final class Slab {
        int wide;
        int high;
        int grain;
        int from = NONE;
        String fate = "THERE";
        List<Point> flaws = new ArrayList<>();

        Slab copy() {
            Slab c = new Slab();
            c.wide = wide;
            c.high = high;
            c.grain = grain;
            c.from = from;
            c.fate = fate;
            c.flaws = new ArrayList<>(flaws);
            return c;
        }
    }

    private static final class Kind {
        int length;
        int breadth;
        int way;
        int let;
        int price;
        int wanted;
        List<Integer> payments = new ArrayList<>();

        Kind copy() {
            Kind c = new Kind();
            c.length = length;
            c.breadth = breadth;
            c.way = way;
            c.let = let;
            c.price = price;
            c.wanted = wanted;
            c.payments = new ArrayList<>(payments);
            return c;
        }

        int paid() {
            return payments.stream().mapToInt(p -> p).sum();
        }
    }

    private record Pair(int slab, int kind) {
    }

    private List<Slab> slabs = new ArrayList<>();
    private List<Kind> kinds = new ArrayList<>();
    private int kerf = 1;
    private final Map<List<Integer>, Integer> worths = new HashMap<>();

    private PlainYard copy() {
        PlainYard c = new PlainYard();
        for (Slab s : slabs) {
            c.slabs.add(s.copy());
        }
        for (Kind k : kinds) {
            c.kinds.add(k.copy());
        }
        c.kerf = kerf;
        return c;
    }

    private static void index(boolean isRight) {
        if (!isRight) {
            throw new IndexOutOfBoundsException();
        }
    }

    private static void argument(boolean isRight) {
        if (!isRight) {
            throw new IllegalArgumentException();
        }
    }

    private static void state(boolean isRight) {
        if (!isRight) {
            throw new IllegalStateException();
        }
    }

    private static boolean in(long v, long low, long high) {
        return low <= v && v <= high;
    }

    private Slab at(int slab) {
        index(in(slab, 0, slabs.size() - 1));
        return slabs.get(slab);
    }

    private Kind kindAt(int kind) {
        index(in(kind, 0, kinds.size() - 1));
        return kinds.get(kind);
    }

    private static boolean isThere(Slab s) {
        return s.fate.equals("THERE");
    }

    int slab(int wide, int high, int grain) {
        argument(in(wide, 1, 24) && in(high, 1, 24) && in(grain, 0, 1));
        state(slabs.size() < 40);
        Slab s = new Slab();
        s.wide = wide;
        s.high = high;
        s.grain = grain;
        slabs.add(s);
        return slabs.size() - 1;
    }

    int flaw(int slab, int x, int y) {
        Slab s = at(slab);
        index(in(x, 0, s.wide - 1) && in(y, 0, s.high - 1));
        state(isThere(s) && s.flaws.size() < 6);
        s.flaws.add(new Point(x, y));
        return s.flaws.size();
    }

    int kerf(int newKerf) {
        argument(in(newKerf, 0, 2));
        int before = kerf;
        kerf = newKerf;
        worths.clear();
        return before;
    }

    private boolean canCut(Slab s, boolean isDown, int k) {
        long whole = isDown ? s.wide : s.high;
        return k >= 1 && whole - k - kerf >= 1;
    }

    int cut(int slab, boolean isDown, int k) {
        Slab s = at(slab);
        argument(canCut(s, isDown, k));
        state(isThere(s) && slabs.size() <= 38);
        return carryOutCut(slab, isDown, k);
    }

    private int carryOutCut(int slab, boolean isDown, int k) {
        Slab s = slabs.get(slab);
        Slab one = s.copy();
        Slab other = s.copy();
        one.from = slab;
        other.from = slab;
        one.flaws.clear();
        other.flaws.clear();
        if (isDown) {
            one.wide = k;
            other.wide = s.wide - k - kerf;
        } else {
            one.high = k;
            other.high = s.high - k - kerf;
        }
        for (Point p : s.flaws) {
            int v = isDown ? p.x : p.y;
            if (v < k) {
                one.flaws.add(p);
            } else if (v >= k + kerf) {
                other.flaws.add(isDown ? new Point(p.x - (k + kerf), p.y) : new Point(p.x, p.y - (k + kerf)));
            }
        }
        s.fate = "CUT";
        slabs.add(one);
        slabs.add(other);
        return slabs.size() - 2;
    }

    int toss(int slab) {
        Slab s = at(slab);
        state(isThere(s));
        s.fate = "THROWN";
        return s.wide * s.high;
    }

    int ofSlab(int slab, int what) {
        Slab s = at(slab);
        argument(in(what, 0, 5));
        int fate = List.of("THERE", "CUT", "TAKEN", "THROWN").indexOf(s.fate);
        return List.of(s.wide, s.high, s.grain, s.flaws.size(), s.from, fate).get(what);
    }

    int flawsAt(int slab, int x, int y) {
        Slab s = at(slab);
        index(in(x, 0, s.wide - 1) && in(y, 0, s.high - 1));
        return (int) s.flaws.stream().filter(p -> p.equals(new Point(x, y))).count();
    }

    int root(int slab) {
        Slab s = at(slab);
        return s.from == NONE ? slab : root(s.from);
    }

    int kind(int length, int breadth, int price) {
        argument(in(length, 1, 24) && in(breadth, 1, 24) && in(price, 1, 999));
        state(kinds.size() < 6);
        Kind k = new Kind();
        k.length = length;
        k.breadth = breadth;
        k.price = price;
        kinds.add(k);
        worths.clear();
        return kinds.size() - 1;
    }

    int let(int kind, int way, int flaws) {
        Kind k = kindAt(kind);
        argument(in(way, 0, 2) && in(flaws, 0, 3));
        int before = k.way;
        k.way = way;
        k.let = flaws;
        worths.clear();
        return before;
    }

    int order(int kind, int many) {
        Kind k = kindAt(kind);
        argument(many >= 1 && (long) many + k.wanted <= 20);
        k.wanted += many;
        return k.wanted;
    }

    int ofKind(int kind, int what) {
        Kind k = kindAt(kind);
        argument(in(what, 0, 7));
        int[] all = {k.length, k.breadth, k.way, k.let, k.price, k.wanted, k.payments.size(), k.paid()};
        return all[what];
    }

    /** The WIDE and HIGH that the KIND takes in the manner, null if its WAY does not let it. */
    private static int[] lies(Kind k, int manner, int grain) {
        boolean lengthIsAlongWide = manner == 0;
        boolean grainIsAlongWide = grain == 0;
        if (k.way == 1 && lengthIsAlongWide != grainIsAlongWide) {
            return null;
        }
        if (k.way == 2 && lengthIsAlongWide == grainIsAlongWide) {
            return null;
        }
        return lengthIsAlongWide ? new int[] {k.length, k.breadth} : new int[] {k.breadth, k.length};
    }

    private static boolean liesNotGreater(Kind k, int manner, int wide, int high, int grain) {
        int[] size = lies(k, manner, grain);
        return size != null && size[0] <= wide && size[1] <= high;
    }

    int fits(int slab, int kind) {
        Slab s = at(slab);
        Kind k = kindAt(kind);
        for (int manner = 0; manner <= 1; manner++) {
            if (isThere(s) && liesNotGreater(k, manner, s.wide, s.high, s.grain)) {
                int[] size = lies(k, manner, s.grain);
                int flaws = 0;
                for (int x = 0; x < size[0]; x++) {
                    for (int y = 0; y < size[1]; y++) {
                        flaws += flawsAt(slab, x, y);
                    }
                }
                if (flaws <= k.let) {
                    return manner;
                }
            }
        }
        return NONE;
    }

    int take(int slab, int kind) {
        int manner = fits(slab, kind);
        state(manner != NONE && slabs.size() <= 36);
        return carryOutTake(slab, kind);
    }

    private int carryOutTake(int slab, int kind) {
        Kind k = kinds.get(kind);
        int[] size = lies(k, fits(slab, kind), slabs.get(slab).grain);
        int stone = slab;
        if (slabs.get(stone).wide - size[0] > kerf) {
            stone = carryOutCut(stone, true, size[0]);
        }
        if (slabs.get(stone).high - size[1] > kerf) {
            stone = carryOutCut(stone, false, size[1]);
        }
        slabs.get(stone).fate = "TAKEN";
        int pay;
        if (k.wanted > 0) {
            k.wanted--;
            pay = k.price;
        } else {
            pay = k.price / 4;
        }
        k.payments.add(pay);
        k.price = k.price * 9 / 10;
        if (k.price < 1) {
            k.price = 1;
        }
        for (Kind other : kinds) {
            if (other != k && other.wanted > 0 && other.price < 999) {
                other.price++;
            }
        }
        worths.clear();
        return pay;
    }

    int plan(int most) {
        argument(in(most, 1, 20));
        int done = 0;
        while (done < most && slabs.size() <= 36) {
            List<Pair> pairs = new ArrayList<>();
            for (int s = 0; s < slabs.size(); s++) {
                for (int k = 0; k < kinds.size(); k++) {
                    if (kinds.get(k).wanted > 0 && fits(s, k) != NONE) {
                        pairs.add(new Pair(s, k));
                    }
                }
            }
            if (pairs.isEmpty()) {
                break;
            }
            pairs.sort((a, b) -> {
                int byPrice = kinds.get(b.kind).price - kinds.get(a.kind).price;
                int byArea = area(a.slab) - area(b.slab);
                int byNumber = a.slab - b.slab;
                return byPrice != 0 ? byPrice : byArea != 0 ? byArea : byNumber != 0 ? byNumber : a.kind - b.kind;
            });
            carryOutTake(pairs.get(0).slab, pairs.get(0).kind);
            done++;
        }
        return done;
    }

    private int area(int slab) {
        return slabs.get(slab).wide * slabs.get(slab).high;
    }

    int many(int what) {
        argument(in(what, 0, 7));
        int there = 0;
        int areaThere = 0;
        int waste = 0;
        for (Slab s : slabs) {
            if (s.from == NONE) {
                waste += s.wide * s.high;
            }
            if (isThere(s)) {
                there++;
                areaThere += s.wide * s.high;
                waste -= s.wide * s.high;
            }
        }
        int taken = 0;
        int paid = 0;
        int wanted = 0;
        for (Kind k : kinds) {
            taken += k.payments.size();
            paid += k.paid();
            wanted += k.wanted;
            waste -= k.payments.size() * k.length * k.breadth;
        }
        int[] all = {slabs.size(), there, kinds.size(), taken, paid, waste, wanted, areaThere};
        return all[what];
    }

    double meanArea() {
        return many(1) == 0 ? 0 : many(7) * 1.0 / many(1);
    }

    private void piece(int wide, int high, int grain) {
        argument(in(wide, 1, 24) && in(high, 1, 24) && in(grain, 0, 1));
    }

    private int priceOfOneStone(int wide, int high, int grain) {
        int best = 0;
        for (Kind k : kinds) {
            for (int manner = 0; manner <= 1; manner++) {
                if (liesNotGreater(k, manner, wide, high, grain)) {
                    best = Math.max(best, k.price);
                }
            }
        }
        return best;
    }

    /** Both parts of the cut, as WIDE, HIGH, WIDE, HIGH; null if it cannot be CUT so. */
    private int[] parts(int wide, int high, boolean isDown, int place) {
        int rest = (isDown ? wide : high) - place - kerf;
        if (rest < 1) {
            return null;
        }
        return isDown ? new int[] {place, high, rest, high} : new int[] {wide, place, wide, rest};
    }

    private int worthOfBoth(int[] p, int grain) {
        return worth(p[0], p[1], grain) + worth(p[2], p[3], grain);
    }

    int worth(int wide, int high, int grain) {
        piece(wide, high, grain);
        List<Integer> key = List.of(wide, high, grain);
        Integer known = worths.get(key);
        if (known != null) {
            return known;
        }
        int best = priceOfOneStone(wide, high, grain);
        for (boolean isDown : new boolean[] {true, false}) {
            for (int place = 1; place <= 24; place++) {
                int[] p = parts(wide, high, isDown, place);
                if (p != null) {
                    best = Math.max(best, worthOfBoth(p, grain));
                }
            }
        }
        worths.put(key, best);
        return best;
    }

    int bestCut(int wide, int high, int grain) {
        int worth = worth(wide, high, grain);
        if (worth == 0 || worth == priceOfOneStone(wide, high, grain)) {
            return NONE;
        }
        for (boolean isDown : new boolean[] {true, false}) {
            for (int place = 1; place <= 24; place++) {
                int[] p = parts(wide, high, isDown, place);
                if (p != null && worthOfBoth(p, grain) == worth) {
                    return isDown ? place : 100 + place;
                }
            }
        }
        throw new AssertionError("a worth without a cut");
    }

    int column(int wide, int high, int grain, int kind) {
        kindAt(kind);
        piece(wide, high, grain);
        int worth = worth(wide, high, grain);
        int best = bestCut(wide, high, grain);
        if (worth == 0) {
            return 0;
        }
        if (best == NONE) {
            for (int k = 0; k < kinds.size(); k++) {
                Kind it = kinds.get(k);
                if (it.price == worth && (liesNotGreater(it, 0, wide, high, grain) || liesNotGreater(it, 1, wide, high, grain))) {
                    return k == kind ? 1 : 0;
                }
            }
            throw new AssertionError("a worth without a stone");
        }
        int[] p = parts(wide, high, best < 100, best % 100);
        return column(p[0], p[1], grain, kind) + column(p[2], p[3], grain, kind);
    }

    private int worthOfThere() {
        int sum = 0;
        for (Slab s : slabs) {
            if (isThere(s)) {
                sum += worth(s.wide, s.high, s.grain);
            }
        }
        return sum;
    }

    int worthMore(int kind, int price) {
        kindAt(kind);
        argument(in(price, 1, 999));
        PlainYard other = copy();
        other.kinds.get(kind).price = price;
        return other.worthOfThere() - worthOfThere();
    }

    int wasteBy(int slab, int kind) {
        if (fits(slab, kind) == NONE) {
            return NONE;
        }
        PlainYard other = copy();
        other.carryOutTake(slab, kind);
        return other.many(5);
    }

    int planPays(int most) {
        argument(in(most, 1, 20));
        PlainYard other = copy();
        other.plan(most);
        return other.many(4) - many(4);
    }

    long digest() {
        List<Integer> all = new ArrayList<>();
        for (int what = 0; what <= 7; what++) {
            all.add(many(what));
        }
        for (int s = 0; s < slabs.size(); s++) {
            for (int what = 0; what <= 5; what++) {
                all.add(ofSlab(s, what));
            }
            for (int k = 0; k < kinds.size(); k++) {
                all.add(fits(s, k));
            }
        }
        for (int k = 0; k < kinds.size(); k++) {
            for (int what = 0; what <= 7; what++) {
                all.add(ofKind(k, what));
            }
        }
        all.add(worth(12, 9, 0));
        all.add(bestCut(12, 9, 0));
        all.add(planPays(3));
        long d = 58105;
        for (int v : all) {
            d = d * 31 + v;
        }
        return d;
    }
}
