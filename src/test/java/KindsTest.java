/** Promises 10 to 18. */
public final class KindsTest {
    private static final Due due = new Due();

    public static void main(String[] args) {
        kind();
        let();
        order();
        ofKind();
        fitsByWay();
        fitsByFlaws();
        fitsRefused();
        takeWithCuts();
        takeWithoutCuts();
        takeByHeightAlone();
        takePrices();
        takeRefused();
        planOrder();
        planEnds();
        planWhenFull();
        many();
        meanArea();
        due.end();
    }

    private static void tells(StonecutterYard x, int kind, int... want) {
        for (int what = 0; what < want.length; what++) {
            int w = what;
            due.is(want[w], "ofKind(" + kind + ", " + w + ")", () -> x.ofKind(kind, w));
        }
    }

    private static void slabTells(StonecutterYard x, int slab, int... want) {
        for (int what = 0; what < want.length; what++) {
            int w = what;
            due.is(want[w], "ofSlab(" + slab + ", " + w + ")", () -> x.ofSlab(slab, w));
        }
    }

    private static void kind() {
        StonecutterYard x = new StonecutterYard();
        due.is(0, "kind(24, 24, 999)", () -> x.kind(24, 24, 999));
        due.is(1, "kind(1, 1, 1)", () -> x.kind(1, 1, 1));
        due.is(2, "kind(6, 2, 40)", () -> x.kind(6, 2, 40));
        tells(x, 2, 6, 2, 0, 0, 40, 0, 0, 0);
        int[][] refused = {{0, 1, 1}, {25, 1, 1}, {1, 0, 1}, {1, 25, 1}, {1, 1, 0}, {1, 1, 1000},
            {Integer.MIN_VALUE, 1, 1}, {1, Integer.MAX_VALUE, 1}, {1, 1, Integer.MIN_VALUE}};
        for (int[] r : refused) {
            due.fails(x, Due.ARGUMENT, "kind refused", () -> x.kind(r[0], r[1], r[2]));
        }
        x.kind(2, 2, 2);
        x.kind(2, 2, 2);
        due.is(5, "kind, the sixth", () -> x.kind(2, 2, 2));
        due.fails(x, Due.STATE, "kind, the seventh", () -> x.kind(2, 2, 2));
        due.fails(x, Due.ARGUMENT, "kind, the seventh, wrong", () -> x.kind(2, 2, 0));
        due.is(6, "many(2)", () -> x.many(2));
    }

    private static void let() {
        StonecutterYard x = new StonecutterYard();
        x.kind(3, 2, 5);
        due.is(0, "let(0, 2, 3)", () -> x.let(0, 2, 3));
        due.is(2, "let(0, 1, 0)", () -> x.let(0, 1, 0));
        due.is(1, "let(0, 1, 2)", () -> x.let(0, 1, 2));
        tells(x, 0, 3, 2, 1, 2, 5, 0, 0, 0);
        int[][] wrong = {{0, 3, 0}, {0, -1, 0}, {0, 0, 4}, {0, 0, -1}};
        for (int[] r : wrong) {
            due.fails(x, Due.ARGUMENT, "let refused", () -> x.let(r[0], r[1], r[2]));
        }
        due.fails(x, Due.INDEX, "let(1, 3, 4)", () -> x.let(1, 3, 4));
        due.fails(x, Due.INDEX, "let(-1, 0, 0)", () -> x.let(-1, 0, 0));
    }

    private static void order() {
        StonecutterYard x = new StonecutterYard();
        x.kind(3, 2, 5);
        due.is(1, "order(0, 1)", () -> x.order(0, 1));
        due.is(19, "order(0, 18)", () -> x.order(0, 18));
        due.fails(x, Due.ARGUMENT, "order(0, 2)", () -> x.order(0, 2));
        due.fails(x, Due.ARGUMENT, "order(0, 0)", () -> x.order(0, 0));
        due.fails(x, Due.ARGUMENT, "order(0, -1)", () -> x.order(0, -1));
        due.fails(x, Due.ARGUMENT, "order(0, most)", () -> x.order(0, Integer.MAX_VALUE));
        due.fails(x, Due.ARGUMENT, "order(0, least)", () -> x.order(0, Integer.MIN_VALUE));
        due.fails(x, Due.INDEX, "order(1, 0)", () -> x.order(1, 0));
        due.fails(x, Due.INDEX, "order(-1, 1)", () -> x.order(-1, 1));
        due.is(20, "order(0, 1)", () -> x.order(0, 1));
        due.fails(x, Due.ARGUMENT, "order(0, 1)", () -> x.order(0, 1));
        x.kind(3, 2, 5);
        due.is(20, "order(1, 20)", () -> x.order(1, 20));
    }

    private static void ofKind() {
        StonecutterYard x = new StonecutterYard();
        x.slab(10, 10, 0);
        x.kind(4, 3, 50);
        x.let(0, 1, 2);
        x.order(0, 2);
        tells(x, 0, 4, 3, 1, 2, 50, 2, 0, 0);
        x.take(0, 0);
        tells(x, 0, 4, 3, 1, 2, 45, 1, 1, 50);
        x.take(2, 0);
        tells(x, 0, 4, 3, 1, 2, 40, 0, 2, 95);
        due.is(Due.ARGUMENT, "ofKind(0, 8)", () -> x.ofKind(0, 8));
        due.is(Due.ARGUMENT, "ofKind(0, -1)", () -> x.ofKind(0, -1));
        due.is(Due.INDEX, "ofKind(1, 8)", () -> x.ofKind(1, 8));
        due.is(Due.INDEX, "ofKind(-1, 0)", () -> x.ofKind(-1, 0));
    }

    private static void fitsByWay() {
        StonecutterYard x = new StonecutterYard();
        x.slab(9, 9, 0);
        x.slab(9, 9, 1);
        x.slab(6, 4, 0);
        x.slab(4, 6, 0);
        x.slab(5, 5, 0);
        x.kind(6, 4, 10);
        int[][] due0To4ByWay = {{0, 0, 0, 1, -1}, {0, 1, 0, -1, -1}, {1, 0, -1, 1, -1}};
        for (int w = 0; w <= 2; w++) {
            x.let(0, w, 0);
            for (int s = 0; s < 5; s++) {
                int slab = s;
                due.is(due0To4ByWay[w][s], "fits(" + s + ", 0) with the way " + w, () -> x.fits(slab, 0));
            }
        }
    }

    private static void fitsByFlaws() {
        StonecutterYard x = new StonecutterYard();
        x.slab(10, 10, 0);
        x.kind(6, 4, 10);
        x.flaw(0, 6, 0);
        x.flaw(0, 0, 6);
        due.is(0, "flaws just beside it", () -> x.fits(0, 0));
        x.flaw(0, 5, 3);
        due.is(1, "a flaw on its last point", () -> x.fits(0, 0));
        x.flaw(0, 3, 5);
        due.is(-1, "a flaw in both manners", () -> x.fits(0, 0));
        x.let(0, 0, 1);
        due.is(0, "one flaw let", () -> x.fits(0, 0));
        x.flaw(0, 5, 3);
        due.is(1, "two flaws on one point", () -> x.fits(0, 0));
        x.let(0, 0, 2);
        due.is(0, "two flaws let", () -> x.fits(0, 0));
    }

    private static void fitsRefused() {
        StonecutterYard x = new StonecutterYard();
        x.slab(5, 5, 0);
        x.kind(5, 5, 10);
        due.is(0, "fits(0, 0)", () -> x.fits(0, 0));
        x.toss(0);
        due.is(-1, "fits(0, 0), gone", () -> x.fits(0, 0));
        due.is(Due.INDEX, "fits(1, 0)", () -> x.fits(1, 0));
        due.is(Due.INDEX, "fits(-1, 0)", () -> x.fits(-1, 0));
        due.is(Due.INDEX, "fits(0, 1)", () -> x.fits(0, 1));
        due.is(Due.INDEX, "fits(0, -1)", () -> x.fits(0, -1));
    }

    private static void takeWithCuts() {
        StonecutterYard x = new StonecutterYard();
        x.slab(10, 8, 1);
        x.kind(4, 3, 30);
        x.let(0, 1, 0);
        x.order(0, 1);
        x.flaw(0, 3, 0);
        x.flaw(0, 7, 7);
        due.is(1, "fits(0, 0), only along the grain", () -> x.fits(0, 0));
        x.let(0, 2, 1);
        due.is(30, "take(0, 0)", () -> x.take(0, 0));
        slabTells(x, 0, 10, 8, 1, 2, -1, 1);
        slabTells(x, 1, 4, 8, 1, 1, 0, 1);
        slabTells(x, 2, 5, 8, 1, 1, 0, 0);
        slabTells(x, 3, 4, 3, 1, 1, 1, 2);
        slabTells(x, 4, 4, 4, 1, 0, 1, 0);
        due.is(80 - 40 - 16 - 12, "many(5)", () -> x.many(5));
    }

    private static void takeWithoutCuts() {
        StonecutterYard x = new StonecutterYard();
        x.slab(5, 4, 0);
        x.kind(4, 3, 30);
        due.is(7, "take(0, 0), not wanted", () -> x.take(0, 0));
        due.is(1, "many(0)", () -> x.many(0));
        slabTells(x, 0, 5, 4, 0, 0, -1, 2);
        due.is(8, "many(5)", () -> x.many(5));
        x.kerf(2);
        x.slab(6, 6, 0);
        x.take(1, 0);
        due.is(4, "many(0), cut across alone", () -> x.many(0));
        slabTells(x, 1, 6, 6, 0, 0, -1, 1);
        slabTells(x, 2, 6, 3, 0, 0, 1, 2);
        slabTells(x, 3, 6, 1, 0, 0, 1, 0);
    }

    private static void takeByHeightAlone() {
        StonecutterYard x = new StonecutterYard();
        x.kerf(0);
        x.slab(5, 4, 0);
        x.kind(4, 4, 30);
        x.take(0, 0);
        due.is(3, "many(0), cut down alone", () -> x.many(0));
        slabTells(x, 1, 4, 4, 0, 0, 0, 2);
        slabTells(x, 2, 1, 4, 0, 0, 0, 0);
    }

    private static void takePrices() {
        StonecutterYard x = new StonecutterYard();
        for (int i = 0; i < 5; i++) {
            x.slab(2, 2, 0);
        }
        x.kind(2, 2, 39);
        x.kind(3, 3, 999);
        x.kind(3, 3, 998);
        x.kind(3, 3, 500);
        x.kind(2, 2, 1);
        x.order(0, 1);
        x.order(1, 1);
        x.order(2, 2);
        due.is(39, "take(0, 0), wanted", () -> x.take(0, 0));
        int[] prices = {35, 999, 999, 500, 1};
        for (int k = 0; k < 5; k++) {
            int kind = k;
            due.is(prices[k], "price of " + k, () -> x.ofKind(kind, 4));
        }
        due.is(8, "take(1, 0), not wanted", () -> x.take(1, 0));
        due.is(31, "its price then", () -> x.ofKind(0, 4));
        due.is(0, "wanted then", () -> x.ofKind(0, 5));
        due.is(0, "take(2, 4) at a price of 1", () -> x.take(2, 4));
        due.is(1, "its price then", () -> x.ofKind(4, 4));
        due.is(31, "the price of one that is not wanted", () -> x.ofKind(0, 4));
        x.order(4, 1);
        due.is(1, "take(3, 4), wanted", () -> x.take(3, 4));
        due.is(48, "many(4)", () -> x.many(4));
    }

    private static void takeRefused() {
        StonecutterYard x = new StonecutterYard();
        x.slab(3, 3, 0);
        x.slab(2, 2, 0);
        x.kind(3, 3, 10);
        x.kind(2, 2, 10);
        due.fails(x, Due.INDEX, "take(2, 0)", () -> x.take(2, 0));
        due.fails(x, Due.INDEX, "take(-1, 0)", () -> x.take(-1, 0));
        due.fails(x, Due.INDEX, "take(0, 2)", () -> x.take(0, 2));
        due.fails(x, Due.INDEX, "take(0, -1)", () -> x.take(0, -1));
        due.fails(x, Due.STATE, "take(1, 0)", () -> x.take(1, 0));
        x.toss(1);
        due.fails(x, Due.STATE, "take(1, 1), gone", () -> x.take(1, 1));
        for (int i = 2; i < 36; i++) {
            x.slab(2, 2, 0);
        }
        due.is(2, "take with 36", () -> x.take(2, 1));
        x.slab(2, 2, 0);
        due.fails(x, Due.STATE, "take with 37", () -> x.take(3, 1));
    }

    private static void planOrder() {
        StonecutterYard x = new StonecutterYard();
        x.slab(9, 9, 0);
        x.slab(4, 6, 0);
        x.slab(6, 4, 0);
        x.kind(2, 2, 20);
        x.kind(4, 4, 20);
        x.kind(3, 3, 30);
        x.order(0, 2);
        x.order(1, 2);
        due.is(1, "plan(1)", () -> x.plan(1));
        due.is(1, "the smallest area, number, kind", () -> x.ofKind(0, 6));
        due.is(1, "the smallest area, number, slab", () -> x.ofSlab(1, 5));
        due.is(0, "of the same area, but a greater number", () -> x.ofSlab(2, 5));
        due.is(18, "its price", () -> x.ofKind(0, 4));
        due.is(21, "the other one's price", () -> x.ofKind(1, 4));
        due.is(1, "plan(1)", () -> x.plan(1));
        due.is(1, "the greatest price", () -> x.ofKind(1, 6));
        due.is(1, "in the smallest slab that it fits", () -> x.ofSlab(2, 5));
        due.is(0, "what is not wanted", () -> x.ofKind(2, 6));
    }

    private static void planEnds() {
        StonecutterYard x = new StonecutterYard();
        x.slab(20, 20, 0);
        x.kind(3, 3, 20);
        x.kind(21, 1, 500);
        x.order(1, 1);
        due.is(0, "plan(20), what is wanted does not fit", () -> x.plan(20));
        x.order(0, 3);
        due.is(2, "plan(2)", () -> x.plan(2));
        due.is(1, "plan(20)", () -> x.plan(20));
        due.is(0, "plan(1)", () -> x.plan(1));
        int[] wrong = {0, 21, -1, Integer.MIN_VALUE, Integer.MAX_VALUE};
        for (int most : wrong) {
            due.fails(x, Due.ARGUMENT, "plan(" + most + ")", () -> x.plan(most));
        }
    }

    private static void planWhenFull() {
        StonecutterYard x = new StonecutterYard();
        for (int i = 0; i < 35; i++) {
            x.slab(9, 9, 0);
        }
        x.kind(2, 2, 20);
        x.order(0, 5);
        due.is(1, "plan(20) with 35", () -> x.plan(20));
        due.is(39, "many(0)", () -> x.many(0));
        due.is(0, "plan(20) with 39", () -> x.plan(20));
        StonecutterYard y = new StonecutterYard();
        for (int i = 0; i < 37; i++) {
            y.slab(2, 2, 0);
        }
        y.kind(2, 2, 20);
        y.order(0, 5);
        due.is(0, "plan(20) with 37, no cut needed", () -> y.plan(20));
    }

    private static void many() {
        StonecutterYard x = new StonecutterYard();
        x.slab(10, 10, 0);
        x.slab(4, 4, 0);
        x.kind(4, 4, 100);
        x.kind(3, 2, 40);
        x.order(0, 5);
        x.order(1, 2);
        int[] ahead = {2, 2, 2, 0, 0, 0, 7, 116};
        manyIs(x, ahead);
        x.take(1, 0);
        manyIs(x, new int[] {2, 1, 2, 1, 100, 0, 6, 100});
        x.take(0, 1);
        manyIs(x, new int[] {6, 2, 2, 2, 141, 100 - 60 - 3 * 7 - 6, 5, 81});
        x.toss(3);
        manyIs(x, new int[] {6, 1, 2, 2, 141, 100 - 3 * 7 - 6, 5, 21});
        due.is(Due.ARGUMENT, "many(8)", () -> x.many(8));
        due.is(Due.ARGUMENT, "many(-1)", () -> x.many(-1));
    }

    private static void manyIs(StonecutterYard x, int[] want) {
        for (int what = 0; what <= 7; what++) {
            int w = what;
            due.is(want[w], "many(" + w + ")", () -> x.many(w));
        }
    }

    private static void meanArea() {
        StonecutterYard x = new StonecutterYard();
        due.is(0.0, "meanArea() of none", () -> x.meanArea());
        x.slab(3, 3, 0);
        x.slab(2, 2, 0);
        due.is(6.5, "meanArea() of two", () -> x.meanArea());
        x.slab(1, 1, 0);
        due.is(14.0 / 3, "meanArea() of three", () -> x.meanArea());
        x.toss(0);
        due.is(2.5, "meanArea() without the first", () -> x.meanArea());
        x.toss(1);
        x.toss(2);
        due.is(0.0, "meanArea() of none there", () -> x.meanArea());
    }
}
