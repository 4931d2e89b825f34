/** The boundary cases of "3 WORTH" and of the promises 19 to 23 and 25, sentence by sentence. */
public final class WorthEdgesTest extends Edges {
    public static void main(String[] args) {
        piecesOfAllSizes();
        piecesRefused();
        worthOfNothing();
        worthOfOneStone();
        worthOfTwoStones();
        worthByWayAndGrain();
        worthAsManyAsOneLikes();
        worthByPricesAsTheyAreNow();
        worthOfBothParts();
        greatestWorth();
        bestCutNone();
        bestCutDownFirst();
        bestCutSmallestPlace();
        bestCutFarthestPlaces();
        columnOfNothing();
        columnOfOneStone();
        columnOfAllParts();
        columnRefused();
        worthMoreOfPrices();
        worthMoreOfSlabs();
        worthMoreByArea();
        worthMoreRefused();
        wasteByNone();
        wasteByAsTaken();
        wasteByWithTooManySlabs();
        wasteByRefused();
        digests();
        Scene.end();
    }

    private static void piecesOfAllSizes() {
        about("worth() and bestCut() of a piece that is 1 to 24 WIDE and HIGH, with the GRAIN 0 or 1");
        Scene small = NEW.with("kerf", 0).with("kind", 1, 1, 1);
        int[][] sizes = {{1, 1}, {1, 24}, {24, 1}, {24, 24}, {2, 23}, {13, 7}};
        for (int[] s : sizes) {
            for (int grain = 0; grain <= 1; grain++) {
                NEW.keeps(0, "worth", s[0], s[1], grain);
                NEW.keeps(NONE, "bestCut", s[0], s[1], grain);
                small.keeps(s[0] * s[1], "worth", s[0], s[1], grain);
                small.keeps(s[0] > 1 ? 1 : s[1] > 1 ? 101 : NONE, "bestCut", s[0], s[1], grain);
                small.keeps(s[0] * s[1], "column", s[0], s[1], grain, 0);
            }
        }
    }

    private static void piecesRefused() {
        about("worth(): throws IllegalArgumentException if wide or high is not 1 to 24, or grain is not 0 or 1");
        Scene one = NEW.with("slab", 5, 4, 0).with("kind", 1, 1, 1);
        for (int wrong : outside(1, 24)) {
            pieceRefused(one, wrong, 1, 0);
            pieceRefused(one, wrong, 24, 1);
            pieceRefused(one, 1, wrong, 0);
            pieceRefused(one, 24, wrong, 1);
            pieceRefused(one, wrong, wrong, 0);
        }
        for (int wrong : outside(0, 1)) {
            pieceRefused(one, 1, 1, wrong);
            pieceRefused(one, 24, 24, wrong);
        }
    }

    private static void pieceRefused(Scene one, int wide, int high, int grain) {
        one.keeps(ARGUMENT, "worth", wide, high, grain);
        one.keeps(ARGUMENT, "bestCut", wide, high, grain);
        one.keeps(ARGUMENT, "column", wide, high, grain, 0);
        NEW.keeps(ARGUMENT, "worth", wide, high, grain);
        NEW.keeps(ARGUMENT, "bestCut", wide, high, grain);
        one.keeps(INDEX, "column", wide, high, grain, 1);
        one.keeps(INDEX, "column", wide, high, grain, -1);
        NEW.keeps(INDEX, "column", wide, high, grain, 0);
    }

    private static void worthOfNothing() {
        about("the greatest of 0, ..: 0 if no KIND LIES in it");
        Scene one = NEW.with("kind", 6, 4, 999);
        int[][] small = {{1, 1}, {5, 4}, {4, 5}, {6, 3}, {3, 6}, {24, 3}, {3, 24}, {5, 5}};
        for (int[] s : small) {
            one.keeps(0, "worth", s[0], s[1], 0);
            one.keeps(NONE, "bestCut", s[0], s[1], 0);
            one.keeps(0, "column", s[0], s[1], 0, 0);
        }
        Scene large = NEW.with("kind", 24, 24, 999);
        large.keeps(0, "worth", 24, 23, 0);
        large.keeps(0, "worth", 23, 24, 1);
        large.keeps(999, "worth", 24, 24, 1);
    }

    private static void worthOfOneStone() {
        about("the PRICE of each KIND that LIES in it in a manner and is not greater");
        Scene one = NEW.with("kind", 6, 4, 7);
        int[][] sizes = {{6, 4}, {4, 6}, {7, 4}, {6, 5}, {4, 7}, {5, 6}, {12, 4}, {6, 8}};
        for (int[] s : sizes) {
            one.keeps(7, "worth", s[0], s[1], 0);
            one.keeps(NONE, "bestCut", s[0], s[1], 1);
            one.keeps(1, "column", s[0], s[1], 0, 0);
        }
        one.with("kind", 6, 4, 8).keeps(8, "worth", 6, 4, 0);
        one.with("kind", 6, 4, 6).keeps(7, "worth", 6, 4, 0);
        NEW.with("kind", 1, 1, 1).keeps(1, "worth", 1, 1, 0);
        NEW.with("kind", 1, 1, 999).keeps(999, "worth", 1, 1, 1);
    }

    private static void worthOfTwoStones() {
        about("for each CUT, DOWN or ACROSS (with KERF), the WORTH of both parts");
        for (int kerf = 0; kerf <= 2; kerf++) {
            Scene stone = NEW.with("kerf", kerf).with("kind", 5, 3, 10);
            Scene along = stone.with("let", 0, 1, 0);
            along.keeps(20, "worth", 10 + kerf, 3, 0);
            along.keeps(5, "bestCut", 10 + kerf, 3, 0);
            along.keeps(10, "worth", 9 + kerf, 3, 0);
            along.keeps(NONE, "bestCut", 9 + kerf, 3, 0);
            along.keeps(20, "worth", 5, 6 + kerf, 0);
            along.keeps(103, "bestCut", 5, 6 + kerf, 0);
            along.keeps(10, "worth", 5, 5 + kerf, 0);
            along.keeps(NONE, "bestCut", 5, 5 + kerf, 0);
            along.keeps(40, "worth", 10 + kerf, 6 + kerf, 0);
            along.keeps(4, "column", 10 + kerf, 6 + kerf, 0, 0);
            along.keeps(5, "bestCut", 10 + kerf, 6 + kerf, 0);
            along.keeps(20, "worth", 9 + kerf, 6 + kerf, 0);
            along.keeps(20, "worth", 3, 10 + kerf, 1);
            along.keeps(105, "bestCut", 3, 10 + kerf, 1);
            along.keeps(30, "worth", 15 + 2 * kerf, 3, 0);
            along.keeps(20, "worth", 14 + 2 * kerf, 3, 0);
        }
    }

    private static void worthByWayAndGrain() {
        about("each KIND that LIES in it: only if its WAY lets it");
        // Each row: the piece's WIDE, HIGH and GRAIN, and its WORTH with the WAYS 0, 1 and 2.
        int[][] rows = {{6, 4, 0, 9, 9, 0}, {6, 4, 1, 9, 0, 9}, {4, 6, 0, 9, 0, 9}, {4, 6, 1, 9, 9, 0},
            {6, 6, 0, 9, 9, 9}, {6, 6, 1, 9, 9, 9}};
        for (int[] r : rows) {
            for (int way = 0; way <= 2; way++) {
                Scene one = NEW.with("kind", 6, 4, 9).with("let", 0, way, 0);
                one.keeps(r[3 + way], "worth", r[0], r[1], r[2]);
                one.keeps(r[3 + way] / 9, "column", r[0], r[1], r[2], 0);
            }
        }
        for (int way = 0; way <= 2; way++) {
            NEW.with("kind", 5, 5, 9).with("let", 0, way, 0).keeps(9, "worth", 5, 5, 0);
            NEW.with("kind", 5, 5, 9).with("let", 0, way, 0).keeps(9, "worth", 5, 5, 1);
        }
    }

    private static void worthAsManyAsOneLikes() {
        about("as many of each KIND as one likes, whatever is WANTED, with no FLAWS");
        Scene one = NEW.with("kerf", 0).with("kind", 2, 2, 10);
        one.keeps(360, "worth", 12, 12, 0);
        one.with("order", 0, 1).keeps(360, "worth", 12, 12, 0);
        one.with("order", 0, 20).keeps(360, "worth", 12, 12, 0);
        for (int flaws = 0; flaws <= 3; flaws++) {
            one.with("let", 0, 0, flaws).keeps(360, "worth", 12, 12, 0);
        }
        one.with("slab", 12, 12, 0).with("flaw", 0, 0, 0).keeps(360, "worth", 12, 12, 0);
    }

    private static void worthByPricesAsTheyAreNow() {
        about("by PRICES as they are now");
        Scene two = NEW.with("slab", 2, 2, 0).with("kind", 2, 2, 100).with("kind", 3, 3, 50).with("order", 1, 1);
        two.keeps(100, "worth", 3, 3, 0);
        Scene taken = two.with("take", 0, 0);
        taken.keeps(90, "worth", 3, 3, 0);
        two.with("kind", 3, 3, 101).keeps(101, "worth", 3, 3, 0);
        NEW.with("slab", 2, 2, 0).with("kind", 2, 2, 1).with("take", 0, 0).keeps(1, "worth", 2, 2, 0);
        about("with KERF as it is now");
        two.keeps(200, "worth", 5, 2, 0);
        two.with("kerf", 2).keeps(100, "worth", 5, 2, 0);
        two.with("kerf", 2).with("kerf", 0).keeps(200, "worth", 4, 2, 0);
    }

    private static void worthOfBothParts() {
        about("the WORTH of both parts, which can be of different KINDS, and CUT again the other way");
        Scene two = NEW.with("kerf", 0).with("kind", 5, 5, 100).with("kind", 2, 2, 9);
        two.keeps(100 + 2 * 9, "worth", 7, 5, 0);
        two.keeps(2, "bestCut", 7, 5, 0);
        two.keeps(100 + 5 * 9, "worth", 7, 7, 0);
        two.keeps(1, "column", 7, 7, 0, 0);
        two.keeps(5, "column", 7, 7, 0, 1);
        about("What is lost beside a stone is lost");
        two.keeps(100, "worth", 6, 6, 0);
        two.keeps(NONE, "bestCut", 6, 6, 0);
        two.with("kerf", 2).keeps(100, "worth", 8, 8, 0);
        two.with("kerf", 2).keeps(100 + 2 * 9, "worth", 9, 8, 0);
        two.with("kerf", 2).keeps(2, "bestCut", 9, 8, 0);
    }

    private static void greatestWorth() {
        about("the greatest WORTH that there can be");
        Scene all = NEW.with("kerf", 0).with("kind", 1, 1, 999);
        all.keeps(576 * 999, "worth", 24, 24, 0);
        all.keeps(576, "column", 24, 24, 1, 0);
        all.with("kerf", 1).keeps(144 * 999, "worth", 24, 24, 1);
        all.with("kerf", 2).keeps(64 * 999, "worth", 24, 24, 1);
    }

    private static void bestCutNone() {
        about("none, if its WORTH is 0, or the PRICE of a KIND that LIES in it in a manner and is not greater");
        Scene small = NEW.with("kerf", 0).with("kind", 2, 2, 10);
        small.keeps(2, "bestCut", 4, 2, 0);
        small.with("kind", 4, 2, 19).keeps(2, "bestCut", 4, 2, 0);
        small.with("kind", 4, 2, 20).keeps(NONE, "bestCut", 4, 2, 0);
        small.with("kind", 4, 2, 21).keeps(NONE, "bestCut", 4, 2, 0);
        small.with("kind", 3, 2, 20).keeps(NONE, "bestCut", 4, 2, 0);
        about("the PRICE of a KIND that is greater, or that its WAY does not let LIE there, is none of these");
        small.with("kind", 5, 2, 20).keeps(2, "bestCut", 4, 2, 0);
        small.with("kind", 4, 3, 20).keeps(2, "bestCut", 4, 2, 0);
        small.with("kind", 4, 2, 20).with("let", 1, 2, 0).keeps(2, "bestCut", 4, 2, 0);
        small.with("kind", 4, 2, 20).with("let", 1, 2, 0).keeps(NONE, "bestCut", 4, 2, 1);
        small.with("kind", 4, 2, 20).with("let", 1, 1, 0).keeps(NONE, "bestCut", 4, 2, 0);
        small.with("kind", 4, 2, 20).with("let", 1, 1, 0).keeps(2, "bestCut", 4, 2, 1);
    }

    private static void bestCutDownFirst() {
        about("the first CUT with which it has its WORTH: DOWN ahead of ACROSS");
        Scene square = NEW.with("kind", 4, 4, 10);
        square.keeps(4, "bestCut", 9, 9, 0);
        square.keeps(104, "bestCut", 4, 9, 0);
        square.keeps(104, "bestCut", 5, 9, 0);
        square.keeps(1, "bestCut", 6, 9, 0);
        square.keeps(4, "bestCut", 9, 4, 0);
        Scene along = NEW.with("kerf", 0).with("kind", 24, 12, 10).with("let", 0, 1, 0);
        along.keeps(112, "bestCut", 24, 24, 0);
        along.keeps(12, "bestCut", 24, 24, 1);
        along.with("let", 0, 0, 0).keeps(12, "bestCut", 24, 24, 0);
    }

    private static void bestCutSmallestPlace() {
        about("then the smallest place");
        Scene two = NEW.with("kerf", 0).with("kind", 2, 2, 10);
        two.keeps(1, "bestCut", 5, 2, 0);
        two.keeps(101, "bestCut", 2, 5, 0);
        two.keeps(2, "bestCut", 6, 2, 0);
        two.keeps(102, "bestCut", 2, 6, 0);
        two.with("kind", 3, 2, 16).keeps(2, "bestCut", 5, 2, 0);
        two.with("kind", 3, 2, 16).keeps(102, "bestCut", 2, 5, 0);
        two.with("kind", 3, 2, 16).with("kerf", 1).keeps(2, "bestCut", 6, 2, 0);
        two.with("kind", 3, 2, 16).with("kerf", 2).keeps(2, "bestCut", 7, 2, 0);
        two.with("kind", 3, 2, 16).with("kerf", 2).keeps(102, "bestCut", 2, 7, 0);
    }

    private static void bestCutFarthestPlaces() {
        about("bestCut(): its place if DOWN, 100 more if ACROSS: the smallest and the farthest places");
        NEW.with("kerf", 0).with("kind", 12, 1, 10).keeps(12, "bestCut", 24, 1, 0);
        NEW.with("kerf", 0).with("kind", 12, 1, 10).keeps(112, "bestCut", 1, 24, 0);
        NEW.with("kerf", 1).with("kind", 11, 1, 10).keeps(11, "bestCut", 23, 1, 0);
        NEW.with("kerf", 1).with("kind", 11, 1, 10).keeps(111, "bestCut", 1, 23, 0);
        NEW.with("kerf", 2).with("kind", 11, 1, 10).keeps(11, "bestCut", 24, 1, 0);
        NEW.with("kerf", 2).with("kind", 11, 1, 10).keeps(111, "bestCut", 1, 24, 0);
        NEW.with("kind", 1, 1, 1).keeps(1, "bestCut", 3, 1, 0);
        NEW.with("kind", 1, 1, 1).keeps(101, "bestCut", 1, 3, 0);
        NEW.with("kind", 1, 1, 1).keeps(NONE, "bestCut", 2, 2, 0);
        NEW.with("kerf", 2).with("kind", 1, 1, 1).keeps(1, "bestCut", 4, 1, 0);
        NEW.with("kerf", 2).with("kind", 1, 1, 1).keeps(NONE, "bestCut", 3, 3, 0);
    }

    private static void columnOfNothing() {
        about("column(): a piece without WORTH gives no stone of any KIND");
        Scene two = NEW.with("kind", 4, 4, 30).with("kind", 5, 2, 30);
        for (int kind = 0; kind <= 1; kind++) {
            two.keeps(0, "column", 1, 1, 0, kind);
            two.keeps(0, "column", 4, 3, 1, kind);
            two.keeps(0, "column", 24, 1, 0, kind);
        }
    }

    private static void columnOfOneStone() {
        about("of the KIND with the smallest number that has it as its PRICE, LIES there and is not greater");
        Scene kinds = NEW.with("kind", 4, 4, 9).with("kind", 9, 1, 10).with("kind", 4, 3, 10).with("let", 2, 2, 0)
                .with("kind", 3, 3, 10).with("kind", 4, 4, 10).with("kind", 2, 2, 10);
        int[] due = {0, 0, 0, 1, 0, 0};
        int[] dueWhenItLies = {0, 0, 1, 0, 0, 0};
        for (int kind = 0; kind < 6; kind++) {
            kinds.keeps(due[kind], "column", 4, 3, 0, kind);
            kinds.keeps(dueWhenItLies[kind], "column", 4, 3, 1, kind);
        }
        about("column(): one stone, though CUTS have the same WORTH");
        Scene tie = NEW.with("kerf", 0).with("kind", 2, 2, 10).with("kind", 4, 2, 20);
        tie.keeps(0, "column", 4, 2, 0, 0);
        tie.keeps(1, "column", 4, 2, 0, 1);
    }

    private static void columnOfAllParts() {
        about("Returns how many stones of that KIND come, if all is CUT by BEST CUTS");
        Scene two = NEW.with("kind", 4, 4, 30).with("kind", 2, 4, 12);
        two.keeps(4, "column", 12, 9, 0, 0);
        two.keeps(2, "column", 12, 9, 0, 1);
        two.with("kerf", 0).keeps(36, "column", 24, 24, 0, 0);
        two.with("kerf", 0).keeps(0, "column", 24, 24, 0, 1);
        two.with("kerf", 0).keeps(6, "column", 24, 2, 1, 1);
        NEW.with("kerf", 2).with("kind", 1, 1, 1).keeps(64, "column", 24, 24, 0, 0);
    }

    private static void columnRefused() {
        about("column(): throws IndexOutOfBoundsException if there is no such KIND");
        for (int none : noneOf(6)) {
            full().keeps(INDEX, "column", 24, 24, 0, none);
            full().keeps(INDEX, "column", 25, 24, 0, none);
        }
        full().keeps(1, "column", 24, 24, 0, 0);
        full().keeps(0, "column", 24, 24, 0, 5);
        NEW.with("slab", 1, 1, 0).keeps(INDEX, "column", 1, 1, 0, 0);
    }

    private static void worthMoreOfPrices() {
        about("by how much the WORTH .. would be greater with that PRICE (below 0: smaller)");
        Scene one = NEW.with("slab", 4, 4, 0).with("kind", 4, 4, 500);
        int[] prices = {1, 2, 499, 500, 501, 998, 999};
        for (int price : prices) {
            one.keeps(price - 500, "worthMore", 0, price);
        }
        Scene two = one.with("kind", 3, 3, 500);
        two.keeps(0, "worthMore", 0, 1);
        two.keeps(0, "worthMore", 1, 500);
        two.keeps(1, "worthMore", 1, 501);
        NEW.with("slab", 4, 4, 0).with("kind", 5, 5, 1).keeps(0, "worthMore", 0, 999);
    }

    private static void worthMoreOfSlabs() {
        about("of all SLABS that are THERE together (FLAWS aside)");
        NEW.with("kind", 1, 1, 1).keeps(0, "worthMore", 0, 999);
        gone().keeps(0, "worthMore", 0, 999);
        gone().with("kind", 2, 4, 10).keeps(2 * 989, "worthMore", 1, 999);
        Scene flawed = NEW.with("slab", 4, 3, 0).with("slab", 3, 4, 1).with("slab", 4, 3, 1).with("kind", 4, 3, 10)
                .with("let", 0, 1, 0).with("flaw", 0, 0, 0).with("flaw", 1, 0, 0);
        flawed.keeps(20, "worthMore", 0, 20);
        flawed.with("toss", 1).keeps(10, "worthMore", 0, 20);
        full().keeps(0, "worthMore", 5, 1);
        full().keeps(0, "worthMore", 0, 999);
        Scene all = full().with("kerf", 0);
        all.keeps(0, "worthMore", 0, 999);
        Scene most = NEW.with("kerf", 0).with("kind", 1, 1, 1);
        for (int slab = 0; slab < 40; slab++) {
            most = most.and("slab", 24, 24, slab % 2);
        }
        most.keeps(40 * 576 * 998, "worthMore", 0, 999);
    }

    private static void worthMoreByArea() {
        about("worthMore(): of all SLABS, of the one GRAIN, of the other one, and of both");
        int[][] sizes = {{1, 1, 0}, {1, 1, 1}, {24, 3, 0}, {3, 24, 0}, {24, 2, 1}, {2, 24, 1}, {24, 24, 0}, {24, 24, 1}};
        for (int[] one : sizes) {
            for (int[] other : sizes) {
                Scene two = NEW.with("kerf", 0).with("kind", 1, 1, 1)
                        .with("slab", one[0], one[1], one[2]).with("slab", other[0], other[1], other[2]);
                two.answers((one[0] * one[1] + other[0] * other[1]) * 9, "worthMore", 0, 10);
                two.with("toss", 0).answers(other[0] * other[1] * 9, "worthMore", 0, 10);
            }
        }
    }

    private static void worthMoreRefused() {
        about("worthMore(): throws IllegalArgumentException if price is not 1 to 999");
        Scene one = NEW.with("slab", 4, 4, 0).with("kind", 4, 4, 500);
        for (int wrong : outside(1, 999)) {
            one.keeps(ARGUMENT, "worthMore", 0, wrong);
            NEW.with("kind", 4, 4, 500).keeps(ARGUMENT, "worthMore", 0, wrong);
        }
        about("worthMore(): throws IndexOutOfBoundsException if there is no such KIND, ahead of the other exception");
        for (int none : noneOf(1)) {
            one.keeps(INDEX, "worthMore", none, 1);
            one.keeps(INDEX, "worthMore", none, 999);
            one.keeps(INDEX, "worthMore", none, 0);
            one.keeps(INDEX, "worthMore", none, 1000);
        }
        for (int none : noneOf(6)) {
            full().keeps(INDEX, "worthMore", none, 1);
        }
    }

    private static void wasteByNone() {
        about("wasteBy(): NONE if it does not FIT, or the SLAB is not THERE");
        for (int slab = 0; slab <= 4; slab++) {
            gone().keeps(NONE, "wasteBy", slab, 0);
        }
        NEW.with("slab", 4, 4, 0).with("kind", 5, 1, 9).keeps(NONE, "wasteBy", 0, 0);
        Scene flawed = NEW.with("slab", 4, 4, 0).with("kind", 4, 4, 9).with("flaw", 0, 3, 3);
        flawed.keeps(NONE, "wasteBy", 0, 0);
        flawed.with("let", 0, 0, 1).keeps(0, "wasteBy", 0, 0);
        flawed.and("wasteBy", 0, 0).answers(NONE, "wasteBy", 0, 0);
        flawed.with("let", 0, 0, 1).and("wasteBy", 0, 0).answers(0, "wasteBy", 0, 0);
    }

    private static void wasteByAsTaken() {
        about("Returns how great the WASTE would be, if that was TAKEN");
        for (int kerf = 0; kerf <= 2; kerf++) {
            for (int moreWide = 0; moreWide <= 3; moreWide++) {
                for (int moreHigh = 0; moreHigh <= 3; moreHigh++) {
                    int wide = 5 + moreWide;
                    int high = 3 + moreHigh;
                    int beside = moreWide > kerf ? (moreWide - kerf) * high : 0;
                    int below = moreHigh > kerf ? (moreWide > kerf ? 5 : wide) * (moreHigh - kerf) : 0;
                    int due = wide * high - beside - below - 5 * 3;
                    Scene slab = NEW.with("kerf", kerf).with("slab", wide, high, 0).with("kind", 5, 3, 40);
                    slab.keeps(due, "wasteBy", 0, 0);
                    slab.with("take", 0, 0).answers(due, "many", 5);
                }
            }
        }
        about("wasteBy(): with the WASTE that there is");
        gone().with("slab", 5, 4, 0).keeps(24, "wasteBy", 5, 0);
        NEW.with("slab", 24, 24, 0).with("toss", 0).with("slab", 1, 1, 0).with("kind", 1, 1, 1)
                .keeps(576, "wasteBy", 1, 0);
    }

    private static void wasteByWithTooManySlabs() {
        about("wasteBy(): (also if there are too many SLABS)");
        Scene kind = NEW.with("kind", 4, 3, 30);
        for (int count = 35; count <= 40; count++) {
            Scene slabs = kind;
            for (int slab = 0; slab < count; slab++) {
                slabs = slabs.and("slab", 10, 8, 0);
            }
            slabs.keeps(8 + 4, "wasteBy", 0, 0);
            slabs.keeps(8 + 4, "wasteBy", count - 1, 0);
            slabs.with("toss", 3).keeps(80 + 8 + 4, "wasteBy", count - 1, 0);
            slabs.with("toss", 3).keeps(NONE, "wasteBy", 3, 0);
        }
        full().keeps(0, "wasteBy", 39, 5);
    }

    private static void wasteByRefused() {
        about("wasteBy(): throws IndexOutOfBoundsException if there is no such SLAB, or KIND");
        Scene gone = gone();
        for (int none : noneOf(5)) {
            gone.keeps(INDEX, "wasteBy", none, 0);
        }
        for (int none : noneOf(1)) {
            gone.keeps(INDEX, "wasteBy", 0, none);
            gone.keeps(INDEX, "wasteBy", 3, none);
            gone.keeps(INDEX, "wasteBy", none, none);
        }
        NEW.with("slab", 1, 1, 0).keeps(INDEX, "wasteBy", 0, 0);
        NEW.with("kind", 1, 1, 1).keeps(INDEX, "wasteBy", 0, 0);
        for (int none : noneOf(40)) {
            full().keeps(INDEX, "wasteBy", none, 5);
        }
        for (int none : noneOf(6)) {
            full().keeps(INDEX, "wasteBy", 39, none);
        }
    }

    private static void digests() {
        about("A number d starts with 58105; d becomes d * 31 + v, which wraps around as a 64-bit integer");
        NEW.digests();
        NEW.with("slab", 24, 24, 1).digests();
        NEW.with("kind", 24, 24, 999).digests();
        gone().digests();
        gone().with("kind", 2, 2, 9).with("order", 1, 3).digests();
        gone().with("kind", 2, 2, 9).with("order", 1, 3).with("kerf", 2).digests();
        NEW.with("slab", 12, 9, 0).with("kind", 4, 4, 50).with("kind", 9, 12, 400).with("order", 0, 3).digests();
        NEW.with("slab", 12, 9, 1).with("kind", 12, 4, 50).with("let", 0, 2, 3).with("order", 0, 20).digests();
        slabs(NEW.with("kind", 2, 2, 30).with("order", 0, 9), 9).with("plan", 4).digests();
        full().digests();
        about("digest(): worth() and bestCut() of 12 and 9, with the GRAIN 0");
        // One more or less of any of the three numbers has another WORTH and another BEST CUT.
        NEW.with("kerf", 0).with("kind", 1, 1, 1).with("kind", 12, 9, 500).with("let", 1, 1, 0).digests();
    }
}
