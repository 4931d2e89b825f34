/** Promises 19 to 25. */
public final class WorthTest {
    private static final Due due = new Due();

    public static void main(String[] args) {
        worth();
        worthByKerf();
        worthRefused();
        bestCut();
        bestCutIsTheFirst();
        column();
        columnOfSamePrice();
        worthMore();
        wasteBy();
        wasteByWhenFull();
        planPays();
        digest();
        due.end();
    }

    private static void worth() {
        StonecutterYard x = new StonecutterYard();
        x.kind(3, 2, 10);
        due.is(0, "worth(2, 2, 0)", () -> x.worth(2, 2, 0));
        due.is(10, "worth(3, 2, 0)", () -> x.worth(3, 2, 0));
        due.is(10, "worth(2, 3, 0)", () -> x.worth(2, 3, 0));
        due.is(20, "worth(7, 2, 0)", () -> x.worth(7, 2, 0));
        due.is(10, "worth(6, 2, 0), the kerf is missing", () -> x.worth(6, 2, 0));
        x.let(0, 1, 0);
        due.is(0, "worth(2, 3, 0), along the grain", () -> x.worth(2, 3, 0));
        due.is(10, "worth(2, 3, 1), along the grain", () -> x.worth(2, 3, 1));
        x.let(0, 2, 0);
        due.is(10, "worth(2, 3, 0), not along the grain", () -> x.worth(2, 3, 0));
        due.is(0, "worth(2, 3, 1), not along the grain", () -> x.worth(2, 3, 1));
        due.is(0, "what is not wanted counts", () -> x.many(6));
        x.slab(3, 2, 1);
        x.take(0, 0);
        due.is(9, "worth(3, 2, 1) by the new price", () -> x.worth(3, 2, 1));
    }

    private static void worthByKerf() {
        StonecutterYard x = new StonecutterYard();
        x.kind(1, 1, 1);
        int[] square24 = {576, 144, 64};
        int[] row24 = {24, 12, 8};
        for (int kerf = 0; kerf <= 2; kerf++) {
            int k = kerf;
            x.kerf(kerf);
            due.is(square24[k], "worth(24, 24, 0) with the kerf " + k, () -> x.worth(24, 24, 0));
            due.is(row24[k], "worth(24, 1, 1) with the kerf " + k, () -> x.worth(24, 1, 1));
            due.is(row24[k], "worth(1, 24, 0) with the kerf " + k, () -> x.worth(1, 24, 0));
        }
    }

    private static void worthRefused() {
        StonecutterYard x = new StonecutterYard();
        x.kind(1, 1, 1);
        int[][] refused = {{0, 1, 0}, {25, 1, 0}, {1, 0, 0}, {1, 25, 0}, {1, 1, 2}, {1, 1, -1},
            {Integer.MAX_VALUE, 1, 0}, {1, Integer.MIN_VALUE, 0}, {1, 1, Integer.MAX_VALUE}};
        for (int[] r : refused) {
            due.fails(x, Due.ARGUMENT, "worth refused", () -> x.worth(r[0], r[1], r[2]));
            due.fails(x, Due.ARGUMENT, "bestCut refused", () -> x.bestCut(r[0], r[1], r[2]));
            due.fails(x, Due.ARGUMENT, "column refused", () -> x.column(r[0], r[1], r[2], 0));
            due.fails(x, Due.INDEX, "column refused, no kind", () -> x.column(r[0], r[1], r[2], 1));
        }
        due.fails(x, Due.INDEX, "column(1, 1, 0, 1)", () -> x.column(1, 1, 0, 1));
        due.fails(x, Due.INDEX, "column(1, 1, 0, -1)", () -> x.column(1, 1, 0, -1));
    }

    private static void bestCut() {
        StonecutterYard x = new StonecutterYard();
        due.is(-1, "bestCut without kinds", () -> x.bestCut(5, 5, 0));
        x.kind(4, 4, 30);
        due.is(-1, "bestCut(3, 9, 0), no worth", () -> x.bestCut(3, 9, 0));
        due.is(-1, "bestCut(8, 8, 0), one stone", () -> x.bestCut(8, 8, 0));
        due.is(4, "bestCut(9, 8, 0)", () -> x.bestCut(9, 8, 0));
        due.is(1, "bestCut(8, 9, 0), down first, though it only wastes", () -> x.bestCut(8, 9, 0));
        due.is(104, "bestCut(4, 9, 0)", () -> x.bestCut(4, 9, 0));
        due.is(4, "bestCut(9, 9, 0), down first", () -> x.bestCut(9, 9, 0));
        x.kind(9, 9, 120);
        due.is(-1, "bestCut(9, 9, 0), worth one stone", () -> x.bestCut(9, 9, 0));
        due.is(4, "bestCut(19, 10, 0), eight small ones as well as two large ones", () -> x.bestCut(19, 10, 0));
        x.kind(9, 9, 121);
        due.is(9, "bestCut(19, 10, 0), two large ones", () -> x.bestCut(19, 10, 0));
    }

    private static void bestCutIsTheFirst() {
        StonecutterYard x = new StonecutterYard();
        x.kerf(0);
        x.kind(2, 2, 10);
        due.is(1, "bestCut(5, 2, 0), the smallest place", () -> x.bestCut(5, 2, 0));
        due.is(2, "bestCut(4, 2, 0)", () -> x.bestCut(4, 2, 0));
        due.is(101, "bestCut(2, 5, 0)", () -> x.bestCut(2, 5, 0));
        due.is(-1, "bestCut(3, 3, 0)", () -> x.bestCut(3, 3, 0));
        x.kind(3, 2, 11);
        due.is(2, "bestCut(5, 2, 0), the dearer one behind", () -> x.bestCut(5, 2, 0));
    }

    private static void column() {
        StonecutterYard x = new StonecutterYard();
        x.kind(4, 4, 30);
        x.kind(2, 4, 12);
        due.is(4, "column(12, 9, 0, 0)", () -> x.column(12, 9, 0, 0));
        due.is(2, "column(12, 9, 0, 1)", () -> x.column(12, 9, 0, 1));
        due.is(0, "column(3, 3, 0, 0)", () -> x.column(3, 3, 0, 0));
        due.is(1, "column(4, 4, 0, 0)", () -> x.column(4, 4, 0, 0));
        due.is(0, "column(4, 4, 0, 1)", () -> x.column(4, 4, 0, 1));
        due.is(0, "column(1, 1, 0, 1), no worth", () -> x.column(1, 1, 0, 1));
        x.kerf(0);
        due.is(36, "column(24, 24, 1, 0) without a kerf", () -> x.column(24, 24, 1, 0));
    }

    private static void columnOfSamePrice() {
        StonecutterYard x = new StonecutterYard();
        x.kind(9, 1, 10);
        x.kind(4, 4, 10);
        x.kind(3, 3, 10);
        due.is(0, "column(4, 4, 0, 0), it is too long", () -> x.column(4, 4, 0, 0));
        due.is(1, "column(4, 4, 0, 1), the smallest number", () -> x.column(4, 4, 0, 1));
        due.is(0, "column(4, 4, 0, 2)", () -> x.column(4, 4, 0, 2));
        x.let(1, 1, 0);
        due.is(1, "column(4, 4, 1, 1)", () -> x.column(4, 4, 1, 1));
    }

    private static void worthMore() {
        StonecutterYard x = new StonecutterYard();
        x.slab(7, 2, 0);
        x.slab(2, 7, 1);
        x.slab(3, 2, 1);
        x.slab(7, 2, 0);
        x.toss(3);
        x.flaw(0, 0, 0);
        x.kind(3, 2, 10);
        x.kind(7, 2, 15);
        x.let(0, 1, 0);
        due.is(40, "worthMore(0, 20)", () -> x.worthMore(0, 20));
        due.is(0, "worthMore(0, 10)", () -> x.worthMore(0, 10));
        due.is(-10, "worthMore(0, 1), the other kind instead", () -> x.worthMore(0, 1));
        due.is(2 * 999 - 40, "worthMore(1, 999)", () -> x.worthMore(1, 999));
        due.is(10, "the price is as it was", () -> x.ofKind(0, 4));
        due.fails(x, Due.ARGUMENT, "worthMore(0, 0)", () -> x.worthMore(0, 0));
        due.fails(x, Due.ARGUMENT, "worthMore(0, 1000)", () -> x.worthMore(0, 1000));
        due.fails(x, Due.INDEX, "worthMore(2, 0)", () -> x.worthMore(2, 0));
        due.fails(x, Due.INDEX, "worthMore(-1, 5)", () -> x.worthMore(-1, 5));
        due.fails(x, 2 * 999 - 40, "worthMore(1, 999) again", () -> x.worthMore(1, 999));
        x.toss(0);
        x.toss(1);
        x.toss(2);
        due.is(0, "worthMore(0, 999) without slabs", () -> x.worthMore(0, 999));
    }

    private static void wasteBy() {
        StonecutterYard x = new StonecutterYard();
        x.slab(10, 8, 0);
        x.slab(5, 4, 0);
        x.slab(3, 3, 0);
        x.kind(4, 3, 30);
        due.is(8 + 3 + 0 + 1, "wasteBy(0, 0), two cuts", () -> x.wasteBy(0, 0));
        due.is(8, "wasteBy(1, 0), no cut", () -> x.wasteBy(1, 0));
        due.is(-1, "wasteBy(2, 0), it does not fit", () -> x.wasteBy(2, 0));
        due.fails(x, 12, "wasteBy(0, 0) again", () -> x.wasteBy(0, 0));
        x.toss(2);
        due.is(21, "wasteBy(0, 0) with what was waste", () -> x.wasteBy(0, 0));
        due.is(-1, "wasteBy(2, 0), gone", () -> x.wasteBy(2, 0));
        due.is(Due.INDEX, "wasteBy(3, 0)", () -> x.wasteBy(3, 0));
        due.is(Due.INDEX, "wasteBy(-1, 0)", () -> x.wasteBy(-1, 0));
        due.is(Due.INDEX, "wasteBy(0, 1)", () -> x.wasteBy(0, 1));
        due.is(Due.INDEX, "wasteBy(0, -1)", () -> x.wasteBy(0, -1));
        x.take(0, 0);
        due.is(21, "many(5) when it was taken", () -> x.many(5));
    }

    private static void wasteByWhenFull() {
        StonecutterYard x = new StonecutterYard();
        for (int i = 0; i < 40; i++) {
            x.slab(10, 8, 0);
        }
        x.kind(4, 3, 30);
        due.is(Due.STATE, "take(39, 0)", () -> x.take(39, 0));
        due.fails(x, 12, "wasteBy(39, 0)", () -> x.wasteBy(39, 0));
    }

    private static void planPays() {
        StonecutterYard x = new StonecutterYard();
        x.slab(9, 9, 0);
        x.slab(5, 5, 1);
        x.flaw(1, 0, 0);
        x.kind(4, 4, 50);
        x.kind(2, 2, 20);
        x.order(0, 3);
        x.order(1, 2);
        due.fails(x, 50, "planPays(1)", () -> x.planPays(1));
        due.fails(x, 95, "planPays(2)", () -> x.planPays(2));
        due.fails(x, 95 + 40, "planPays(3)", () -> x.planPays(3));
        int all = x.planPays(20);
        due.is(4, "plan(20)", () -> x.plan(20));
        due.is(all, "many(4)", () -> x.many(4));
        due.is(0, "planPays(20) when all was met", () -> x.planPays(20));
        int[] wrong = {0, 21, -1, Integer.MIN_VALUE, Integer.MAX_VALUE};
        for (int most : wrong) {
            due.fails(x, Due.ARGUMENT, "planPays(" + most + ")", () -> x.planPays(most));
        }
    }

    private static void digest() {
        StonecutterYard x = new StonecutterYard();
        x.slab(20, 12, 0);
        x.slab(14, 18, 1);
        x.kind(6, 3, 80);
        x.kind(4, 4, 55);
        x.order(0, 4);
        x.flaw(0, 5, 1);
        x.cut(1, false, 7);
        x.take(0, 1);
        due.is(digestOf(x), "digest()", () -> x.digest());
        due.is(digestOf(x), "digest() again", () -> x.digest());
        x.kerf(0);
        due.is(digestOf(x), "digest() with another kerf", () -> x.digest());
    }

    private static long digestOf(StonecutterYard x) {
        long[] d = {58105L};
        for (int what = 0; what <= 7; what++) {
            d[0] = d[0] * 31 + x.many(what);
        }
        for (int slab = 0; slab < x.many(0); slab++) {
            for (int what = 0; what <= 5; what++) {
                d[0] = d[0] * 31 + x.ofSlab(slab, what);
            }
            for (int kind = 0; kind < x.many(2); kind++) {
                d[0] = d[0] * 31 + x.fits(slab, kind);
            }
        }
        for (int kind = 0; kind < x.many(2); kind++) {
            for (int what = 0; what <= 7; what++) {
                d[0] = d[0] * 31 + x.ofKind(kind, what);
            }
        }
        d[0] = d[0] * 31 + x.worth(12, 9, 0);
        d[0] = d[0] * 31 + x.bestCut(12, 9, 0);
        return d[0] * 31 + x.planPays(3);
    }
}
