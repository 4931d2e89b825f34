/** Promises 1 to 9. */
public final class SlabsTest {
    private static final Due due = new Due();

    public static void main(String[] args) {
        newObject();
        slab();
        flaw();
        kerf();
        cutDown();
        cutAcross();
        cutWithoutKerf();
        cutRefused();
        cutWhenFull();
        toss();
        ofSlab();
        flawsAt();
        root();
        due.end();
    }

    private static void newObject() {
        StonecutterYard x = new StonecutterYard();
        for (int what = 0; what <= 7; what++) {
            int w = what;
            due.is(0, "new many(" + w + ")", () -> x.many(w));
        }
        due.is(0.0, "new meanArea()", () -> x.meanArea());
        due.is(Due.INDEX, "new ofSlab(0, 0)", () -> x.ofSlab(0, 0));
        due.is(Due.INDEX, "new ofKind(0, 0)", () -> x.ofKind(0, 0));
        due.is(1, "new kerf(1)", () -> x.kerf(1));
        due.is(0, "new worth", () -> x.worth(24, 24, 0));
        due.is(-1, "new bestCut", () -> x.bestCut(24, 24, 0));
        long d = 58105L;
        for (int i = 0; i < 9; i++) {
            d *= 31;
        }
        long want = (d * 31 - 1) * 31;
        due.is(want, "new digest()", () -> x.digest());
    }

    private static void slab() {
        StonecutterYard x = new StonecutterYard();
        due.is(0, "slab(1, 1, 0)", () -> x.slab(1, 1, 0));
        due.is(1, "slab(24, 24, 1)", () -> x.slab(24, 24, 1));
        due.is(2, "slab(7, 3, 1)", () -> x.slab(7, 3, 1));
        int[] told = {7, 3, 1, 0, -1, 0};
        for (int what = 0; what <= 5; what++) {
            int w = what;
            due.is(told[w], "ofSlab(2, " + w + ")", () -> x.ofSlab(2, w));
        }
        int[][] refused = {{0, 5, 0}, {25, 5, 0}, {5, 0, 0}, {5, 25, 0}, {5, 5, -1}, {5, 5, 2},
            {Integer.MIN_VALUE, 5, 0}, {5, Integer.MAX_VALUE, 0}, {5, 5, Integer.MAX_VALUE}};
        for (int[] r : refused) {
            due.fails(x, Due.ARGUMENT, "slab refused", () -> x.slab(r[0], r[1], r[2]));
        }
        for (int i = 3; i < 40; i++) {
            int n = i;
            due.is(n, "slab number " + n, () -> x.slab(2, 2, 0));
        }
        due.fails(x, Due.STATE, "slab number 40", () -> x.slab(2, 2, 0));
        due.fails(x, Due.ARGUMENT, "slab number 40, wrong", () -> x.slab(0, 2, 0));
        x.toss(5);
        due.fails(x, Due.STATE, "slab, as one that is gone counts too", () -> x.slab(2, 2, 0));
    }

    private static void flaw() {
        StonecutterYard x = new StonecutterYard();
        x.slab(5, 3, 0);
        due.is(1, "flaw(0, 4, 2)", () -> x.flaw(0, 4, 2));
        due.is(2, "flaw(0, 0, 0)", () -> x.flaw(0, 0, 0));
        due.is(3, "flaw(0, 4, 2) again", () -> x.flaw(0, 4, 2));
        int[][] refused = {{-1, 0, 0}, {1, 0, 0}, {0, 5, 0}, {0, -1, 0}, {0, 0, 3}, {0, 0, -1},
            {Integer.MAX_VALUE, 0, 0}, {Integer.MIN_VALUE, 0, 0}, {0, Integer.MAX_VALUE, 0}, {0, 0, Integer.MIN_VALUE}};
        for (int[] r : refused) {
            due.fails(x, Due.INDEX, "flaw refused", () -> x.flaw(r[0], r[1], r[2]));
        }
        x.flaw(0, 1, 1);
        x.flaw(0, 1, 1);
        due.is(6, "flaw, the sixth", () -> x.flaw(0, 1, 1));
        due.fails(x, Due.STATE, "flaw, the seventh", () -> x.flaw(0, 1, 1));
        due.fails(x, Due.INDEX, "flaw, the seventh, no point", () -> x.flaw(0, 5, 1));
        due.is(3, "flawsAt(0, 1, 1)", () -> x.flawsAt(0, 1, 1));
        x.slab(5, 3, 0);
        x.toss(1);
        due.fails(x, Due.STATE, "flaw, thrown away", () -> x.flaw(1, 1, 1));
        due.fails(x, Due.INDEX, "flaw, thrown away, no point", () -> x.flaw(1, 5, 1));
    }

    private static void kerf() {
        StonecutterYard x = new StonecutterYard();
        x.slab(5, 5, 0);
        due.is(1, "kerf(0)", () -> x.kerf(0));
        due.is(0, "kerf(2)", () -> x.kerf(2));
        due.is(2, "kerf(2)", () -> x.kerf(2));
        due.fails(x, Due.ARGUMENT, "kerf(3)", () -> x.kerf(3));
        due.fails(x, Due.ARGUMENT, "kerf(-1)", () -> x.kerf(-1));
        due.is(2, "kerf(1)", () -> x.kerf(1));
    }

    private static void tells(StonecutterYard x, int slab, int... want) {
        for (int what = 0; what < want.length; what++) {
            int w = what;
            due.is(want[w], "ofSlab(" + slab + ", " + w + ")", () -> x.ofSlab(slab, w));
        }
    }

    private static void cutDown() {
        StonecutterYard x = new StonecutterYard();
        x.slab(10, 6, 1);
        x.flaw(0, 3, 5);
        x.flaw(0, 4, 2);
        x.flaw(0, 5, 2);
        x.flaw(0, 9, 0);
        due.is(1, "cut(0, true, 4)", () -> x.cut(0, true, 4));
        tells(x, 0, 10, 6, 1, 4, -1, 1);
        tells(x, 1, 4, 6, 1, 1, 0, 0);
        tells(x, 2, 5, 6, 1, 2, 0, 0);
        due.is(1, "the first one's flaw", () -> x.flawsAt(1, 3, 5));
        due.is(1, "the flaw behind the kerf", () -> x.flawsAt(2, 0, 2));
        due.is(1, "the last flaw", () -> x.flawsAt(2, 4, 0));
        due.is(1, "what was cut keeps its flaws", () -> x.flawsAt(0, 4, 2));
    }

    private static void cutAcross() {
        StonecutterYard x = new StonecutterYard();
        x.kerf(2);
        x.slab(6, 10, 0);
        x.flaw(0, 5, 3);
        x.flaw(0, 2, 4);
        x.flaw(0, 2, 5);
        x.flaw(0, 1, 6);
        x.flaw(0, 0, 9);
        due.is(1, "cut(0, false, 4)", () -> x.cut(0, false, 4));
        tells(x, 0, 6, 10, 0, 5, -1, 1);
        tells(x, 1, 6, 4, 0, 1, 0, 0);
        tells(x, 2, 6, 4, 0, 2, 0, 0);
        due.is(1, "the first one's flaw", () -> x.flawsAt(1, 5, 3));
        due.is(1, "the flaw behind the kerf", () -> x.flawsAt(2, 1, 0));
        due.is(1, "the last flaw", () -> x.flawsAt(2, 0, 3));
    }

    private static void cutWithoutKerf() {
        StonecutterYard x = new StonecutterYard();
        x.kerf(0);
        x.slab(3, 2, 0);
        x.flaw(0, 1, 1);
        x.flaw(0, 2, 1);
        due.is(1, "cut(0, true, 2)", () -> x.cut(0, true, 2));
        tells(x, 1, 2, 2, 0, 1, 0, 0);
        tells(x, 2, 1, 2, 0, 1, 0, 0);
        due.is(3, "cut(1, false, 1)", () -> x.cut(1, false, 1));
        tells(x, 4, 2, 1, 0, 1, 1, 0);
        due.is(1, "flawsAt(4, 1, 0)", () -> x.flawsAt(4, 1, 0));
        due.fails(x, Due.ARGUMENT, "cut(2, true, 1)", () -> x.cut(2, true, 1));
    }

    private static void cutRefused() {
        StonecutterYard x = new StonecutterYard();
        x.slab(6, 4, 0);
        int[] places = {0, -1, 5, 6, 7, Integer.MIN_VALUE, Integer.MAX_VALUE};
        for (int p : places) {
            due.fails(x, Due.ARGUMENT, "cut(0, true, " + p + ")", () -> x.cut(0, true, p));
        }
        due.fails(x, Due.ARGUMENT, "cut(0, false, 3)", () -> x.cut(0, false, 3));
        due.fails(x, Due.INDEX, "cut(1, true, 1)", () -> x.cut(1, true, 1));
        due.fails(x, Due.INDEX, "cut(-1, true, 0)", () -> x.cut(-1, true, 0));
        due.is(1, "cut(0, true, 4)", () -> x.cut(0, true, 4));
        due.fails(x, Due.STATE, "cut(0, true, 4) again", () -> x.cut(0, true, 4));
        due.fails(x, Due.ARGUMENT, "cut(0, true, 5), gone", () -> x.cut(0, true, 5));
    }

    private static void cutWhenFull() {
        StonecutterYard x = new StonecutterYard();
        for (int i = 0; i < 38; i++) {
            x.slab(24, 24, 0);
        }
        due.is(38, "cut with 38", () -> x.cut(37, true, 12));
        due.is(40, "many(0)", () -> x.many(0));
        due.fails(x, Due.STATE, "cut with 40", () -> x.cut(0, true, 12));
        due.fails(x, Due.ARGUMENT, "cut with 40, wrong", () -> x.cut(0, true, 24));
        StonecutterYard y = new StonecutterYard();
        for (int i = 0; i < 39; i++) {
            y.slab(24, 24, 0);
        }
        due.fails(y, Due.STATE, "cut with 39", () -> y.cut(0, true, 12));
    }

    private static void toss() {
        StonecutterYard x = new StonecutterYard();
        x.slab(7, 5, 0);
        x.slab(9, 9, 0);
        due.is(35, "toss(0)", () -> x.toss(0));
        due.is(3, "ofSlab(0, 5)", () -> x.ofSlab(0, 5));
        due.is(1, "many(1)", () -> x.many(1));
        due.fails(x, Due.STATE, "toss(0) again", () -> x.toss(0));
        due.fails(x, Due.INDEX, "toss(2)", () -> x.toss(2));
        due.fails(x, Due.INDEX, "toss(-1)", () -> x.toss(-1));
        x.cut(1, true, 3);
        due.fails(x, Due.STATE, "toss(1), cut", () -> x.toss(1));
        due.is(27, "toss(2), a part", () -> x.toss(2));
    }

    private static void ofSlab() {
        StonecutterYard x = new StonecutterYard();
        x.slab(8, 6, 1);
        x.kind(8, 6, 9);
        x.flaw(0, 1, 1);
        tells(x, 0, 8, 6, 1, 1, -1, 0);
        due.is(Due.ARGUMENT, "ofSlab(0, 6)", () -> x.ofSlab(0, 6));
        due.is(Due.ARGUMENT, "ofSlab(0, -1)", () -> x.ofSlab(0, -1));
        due.is(Due.INDEX, "ofSlab(1, 6)", () -> x.ofSlab(1, 6));
        due.is(Due.INDEX, "ofSlab(-1, 0)", () -> x.ofSlab(-1, 0));
        x.let(0, 0, 1);
        x.take(0, 0);
        tells(x, 0, 8, 6, 1, 1, -1, 2);
    }

    private static void flawsAt() {
        StonecutterYard x = new StonecutterYard();
        x.slab(4, 3, 0);
        x.flaw(0, 1, 2);
        x.flaw(0, 1, 2);
        x.flaw(0, 2, 1);
        due.is(2, "flawsAt(0, 1, 2)", () -> x.flawsAt(0, 1, 2));
        due.is(1, "flawsAt(0, 2, 1)", () -> x.flawsAt(0, 2, 1));
        due.is(0, "flawsAt(0, 1, 1)", () -> x.flawsAt(0, 1, 1));
        due.is(0, "flawsAt(0, 3, 2)", () -> x.flawsAt(0, 3, 2));
        int[][] refused = {{1, 0, 0}, {-1, 0, 0}, {0, 4, 0}, {0, -1, 0}, {0, 0, 3}, {0, 0, -1}, {0, Integer.MAX_VALUE, 0}};
        for (int[] r : refused) {
            due.is(Due.INDEX, "flawsAt refused", () -> x.flawsAt(r[0], r[1], r[2]));
        }
        x.toss(0);
        due.is(2, "flawsAt(0, 1, 2), gone", () -> x.flawsAt(0, 1, 2));
    }

    private static void root() {
        StonecutterYard x = new StonecutterYard();
        x.kerf(0);
        x.slab(3, 3, 0);
        x.slab(24, 24, 0);
        int last = 1;
        for (int place = 23; place >= 6; place--) {
            int part = last;
            int p = place;
            due.is(part == 1 ? 2 : part + 2, "cut in a row", () -> x.cut(part, true, p));
            last = part == 1 ? 2 : part + 2;
        }
        int deepest = last;
        due.is(1, "root of the deepest", () -> x.root(deepest));
        due.is(1, "root of its neighbour", () -> x.root(deepest + 1));
        due.is(1, "root(1)", () -> x.root(1));
        due.is(0, "root(0)", () -> x.root(0));
        due.is(Due.INDEX, "root beyond", () -> x.root(deepest + 2));
        due.is(Due.INDEX, "root(-1)", () -> x.root(-1));
    }
}
