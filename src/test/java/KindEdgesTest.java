/** The boundary cases of "2 KINDS", without the PLAN, and of the promises 10 to 15, sentence by sentence. */
public final class KindEdgesTest extends Edges {
    private static final int[] OVERS = {0, 1, 2, 3};

    public static void main(String[] args) {
        sizesAndPricesOfKind();
        kindRefused();
        sixKinds();
        letAll();
        letRefused();
        orders();
        ordersRefused();
        ordersBehindStones();
        ofKindRefused();
        fitsBySize();
        fitsByWayAndGrain();
        fitsSquareStones();
        fitsByFlawsLet();
        fitsByLastPoints();
        fitsInTheFirstManner();
        fitsWhatIsGone();
        fitsRefused();
        takeCutsByKerf();
        takeStoneKeepsWhatIsMore();
        takeInTheFirstManner();
        takePassesFlaws();
        takePays();
        takeLowersWanted();
        takeRaisesOthers();
        takeNotFitting();
        takeWhenFull();
        takeRefused();
        Scene.end();
    }

    private static void sizesAndPricesOfKind() {
        about("LONG and BROAD, 1 to 24 each; a PRICE, 1 to 999; with the WAY 0, no FLAWS LET, and none WANTED");
        int[][] kinds = {{1, 1, 1}, {24, 24, 999}, {1, 24, 1}, {24, 1, 999}, {7, 3, 500}};
        for (int[] k : kinds) {
            NEW.goes(0, "kind", k[0], k[1], k[2]).kindTells(0, k[0], k[1], 0, 0, k[2], 0, 0, 0);
        }
    }

    private static void kindRefused() {
        about("Throws IllegalArgumentException if length or breadth is not 1 to 24");
        Scene one = NEW.with("kind", 5, 4, 30);
        for (int wrong : outside(1, 24)) {
            one.keeps(ARGUMENT, "kind", wrong, 1, 1);
            one.keeps(ARGUMENT, "kind", wrong, 24, 999);
            one.keeps(ARGUMENT, "kind", 1, wrong, 1);
            one.keeps(ARGUMENT, "kind", 24, wrong, 999);
        }
        about("Throws IllegalArgumentException if price is not 1 to 999");
        for (int wrong : outside(1, 999)) {
            one.keeps(ARGUMENT, "kind", 1, 1, wrong);
            one.keeps(ARGUMENT, "kind", 24, 24, wrong);
        }
    }

    private static void sixKinds() {
        about("KINDS of stones: at most 6, numbered from 0; throws IllegalStateException if there are 6");
        Scene kinds = NEW.with("slab", 9, 9, 0);
        for (int kind = 0; kind < 6; kind++) {
            kinds.answers(kind, "many", 2);
            kinds = kinds.goes(kind, "kind", 9 - kind, kind + 1, 10 + kind);
        }
        for (int kind = 0; kind < 6; kind++) {
            kinds.kindTells(kind, 9 - kind, kind + 1, 0, 0, 10 + kind, 0, 0, 0);
        }
        kinds.answers(6, "many", 2);
        kinds.keeps(STATE, "kind", 1, 1, 1);
        kinds.keeps(STATE, "kind", 24, 24, 999);
        about("kind(): IllegalArgumentException is named ahead of IllegalStateException");
        kinds.keeps(ARGUMENT, "kind", 0, 1, 1);
        kinds.keeps(ARGUMENT, "kind", 25, 1, 1);
        kinds.keeps(ARGUMENT, "kind", 1, 0, 1);
        kinds.keeps(ARGUMENT, "kind", 1, 25, 1);
        kinds.keeps(ARGUMENT, "kind", 1, 1, 0);
        kinds.keeps(ARGUMENT, "kind", 1, 1, 1000);
    }

    private static void letAll() {
        about("a WAY, 0 to 2; with how many FLAWS are LET, 0 to 3; returns its WAY before");
        Scene two = NEW.with("kind", 5, 4, 30).with("kind", 5, 4, 30);
        for (int before = 0; before <= 2; before++) {
            Scene changed = two.goes(0, "let", 1, before, 3);
            for (int way = 0; way <= 2; way++) {
                for (int flaws = 0; flaws <= 3; flaws++) {
                    Scene last = changed.goes(before, "let", 1, way, flaws);
                    last.kindTells(1, 5, 4, way, flaws, 30, 0, 0, 0);
                    last.kindTells(0, 5, 4, 0, 0, 30, 0, 0, 0);
                }
            }
        }
    }

    private static void letRefused() {
        about("let(): throws IllegalArgumentException if way is not 0 to 2, or flaws is not 0 to 3");
        Scene one = NEW.with("slab", 5, 5, 0).with("flaw", 0, 0, 0).with("kind", 5, 4, 30).with("let", 0, 1, 1);
        for (int wrong : outside(0, 2)) {
            one.keeps(ARGUMENT, "let", 0, wrong, 0);
            one.keeps(ARGUMENT, "let", 0, wrong, 3);
        }
        for (int wrong : outside(0, 3)) {
            one.keeps(ARGUMENT, "let", 0, 0, wrong);
            one.keeps(ARGUMENT, "let", 0, 2, wrong);
        }
        about("let(): throws IndexOutOfBoundsException if there is no such KIND, ahead of the other exception");
        for (int none : noneOf(1)) {
            one.keeps(INDEX, "let", none, 0, 0);
            one.keeps(INDEX, "let", none, 3, 0);
            one.keeps(INDEX, "let", none, 0, 4);
            one.keeps(INDEX, "let", none, -1, -1);
        }
        for (int none : noneOf(6)) {
            full().keeps(INDEX, "let", none, 0, 0);
        }
        full().goes(0, "let", 5, 2, 0).answers(2, "ofKind", 5, 2);
    }

    private static void orders() {
        about("how many are WANTED, 0 to 20; returns how many are WANTED then");
        Scene one = NEW.with("kind", 5, 4, 30);
        for (int many = 1; many <= 20; many++) {
            one.goes(many, "order", 0, many).answers(many, "ofKind", 0, 5);
            if (many < 20) {
                one.with("order", 0, many).goes(20, "order", 0, 20 - many).answers(20, "many", 6);
            }
        }
        Scene oneByOne = one;
        for (int many = 1; many <= 20; many++) {
            oneByOne = oneByOne.goes(many, "order", 0, 1);
        }
        oneByOne.keeps(ARGUMENT, "order", 0, 1);
    }

    private static void ordersRefused() {
        about("order(): throws IllegalArgumentException if many is below 1");
        Scene two = NEW.with("kind", 5, 4, 30).with("kind", 5, 4, 30).with("order", 1, 7);
        int[] belowOne = {0, -1, -7, -20, LEAST, LEAST + 1};
        for (int many : belowOne) {
            two.keeps(ARGUMENT, "order", 0, many);
            two.keeps(ARGUMENT, "order", 1, many);
        }
        about("order(): throws IllegalArgumentException if there would be more than 20");
        two.keeps(ARGUMENT, "order", 0, 21);
        two.keeps(ARGUMENT, "order", 0, MOST);
        two.keeps(ARGUMENT, "order", 1, 14);
        two.keeps(ARGUMENT, "order", 1, 20);
        two.keeps(ARGUMENT, "order", 1, MOST);
        two.keeps(ARGUMENT, "order", 1, MOST - 6);
        two.goes(20, "order", 1, 13).goes(20, "order", 0, 20).answers(40, "many", 6);
        about("order(): throws IndexOutOfBoundsException if there is no such KIND, ahead of the other exception");
        for (int none : noneOf(2)) {
            two.keeps(INDEX, "order", none, 1);
            two.keeps(INDEX, "order", none, 0);
            two.keeps(INDEX, "order", none, 21);
        }
        for (int none : noneOf(6)) {
            full().keeps(INDEX, "order", none, 1);
        }
        full().keeps(ARGUMENT, "order", 5, 1);
        full().answers(120, "many", 6);
    }

    private static void ordersBehindStones() {
        about("there would be more than 20 WANTED, without those that were TAKEN");
        Scene taken = NEW.with("slab", 2, 2, 0).with("kind", 2, 2, 30).with("order", 0, 20).with("take", 0, 0);
        taken.answers(19, "ofKind", 0, 5);
        taken.keeps(ARGUMENT, "order", 0, 2);
        taken.goes(20, "order", 0, 1).keeps(ARGUMENT, "order", 0, 1);
    }

    private static void ofKindRefused() {
        about("ofKind(): throws IllegalArgumentException if what is not 0 to 7");
        Scene two = NEW.with("kind", 5, 4, 30).with("kind", 6, 3, 999).with("order", 1, 20);
        two.kindTells(0, 5, 4, 0, 0, 30, 0, 0, 0);
        two.kindTells(1, 6, 3, 0, 0, 999, 20, 0, 0);
        for (int wrong : outside(0, 7)) {
            two.keeps(ARGUMENT, "ofKind", 0, wrong);
            two.keeps(ARGUMENT, "ofKind", 1, wrong);
        }
        about("ofKind(): throws IndexOutOfBoundsException if there is no such KIND, ahead of the other exception");
        for (int none : noneOf(2)) {
            two.keeps(INDEX, "ofKind", none, 0);
            two.keeps(INDEX, "ofKind", none, 7);
            two.keeps(INDEX, "ofKind", none, -1);
            two.keeps(INDEX, "ofKind", none, 8);
        }
        for (int none : noneOf(6)) {
            full().keeps(INDEX, "ofKind", none, 0);
        }
        full().keeps(999, "ofKind", 5, 4);
    }

    private static void fitsBySize() {
        about("is not greater, either way; returns the first manner, NONE if it does not");
        Scene six = NEW.with("kind", 6, 4, 30);
        int[][] dues = {{6, 4, 0}, {7, 5, 0}, {6, 6, 0}, {24, 24, 0}, {24, 4, 0}, {6, 24, 0},
            {4, 6, 1}, {5, 7, 1}, {5, 6, 1}, {4, 24, 1},
            {6, 3, NONE}, {3, 6, NONE}, {5, 4, NONE}, {4, 5, NONE}, {5, 5, NONE},
            {24, 3, NONE}, {3, 24, NONE}, {1, 1, NONE}};
        for (int[] d : dues) {
            six.with("slab", d[0], d[1], 0).keeps(d[2], "fits", 0, 0);
            six.with("slab", d[0], d[1], 1).keeps(d[2], "fits", 0, 0);
        }
        Scene wide = NEW.with("kind", 4, 6, 30);
        wide.with("slab", 4, 6, 0).keeps(0, "fits", 0, 0);
        wide.with("slab", 6, 4, 0).keeps(1, "fits", 0, 0);
        NEW.with("kind", 1, 1, 1).with("slab", 1, 1, 0).keeps(0, "fits", 0, 0);
        NEW.with("kind", 24, 24, 1).with("slab", 24, 24, 0).keeps(0, "fits", 0, 0);
        NEW.with("kind", 24, 24, 1).with("slab", 23, 24, 0).keeps(NONE, "fits", 0, 0);
        NEW.with("kind", 24, 24, 1).with("slab", 24, 23, 0).keeps(NONE, "fits", 0, 0);
    }

    private static void fitsByWayAndGrain() {
        about("a WAY: 0 its length can be along the GRAIN or not, 1 only along the GRAIN, 2 only not");
        // Each row: the SLAB's WIDE and HIGH, its GRAIN, and what is due with the WAYS 0, 1 and 2.
        int[][] dues = {
            {9, 9, 0, 0, 0, 1}, {9, 9, 1, 0, 1, 0},
            {6, 4, 0, 0, 0, NONE}, {6, 4, 1, 0, NONE, 0},
            {4, 6, 0, 1, NONE, 1}, {4, 6, 1, 1, 1, NONE}};
        for (int[] d : dues) {
            for (int way = 0; way <= 2; way++) {
                NEW.with("kind", 6, 4, 30).with("slab", d[0], d[1], d[2]).with("let", 0, way, 0)
                        .keeps(d[3 + way], "fits", 0, 0);
            }
        }
    }

    private static void fitsSquareStones() {
        about("each only if its WAY lets it: also when LONG is as BROAD");
        int[][] dues = {{0, 0, 1}, {0, 1, 0}};
        for (int grain = 0; grain <= 1; grain++) {
            for (int way = 0; way <= 2; way++) {
                NEW.with("kind", 5, 5, 30).with("slab", 5, 5, grain).with("let", 0, way, 0)
                        .keeps(dues[grain][way], "fits", 0, 0);
            }
        }
    }

    private static void fitsByFlawsLet() {
        about("no more FLAWS than are LET");
        for (int flaws = 0; flaws <= 6; flaws++) {
            Scene onOnePoint = NEW.with("slab", 9, 9, 0).with("kind", 3, 3, 30);
            Scene onSeveral = onOnePoint;
            for (int i = 0; i < flaws; i++) {
                onOnePoint = onOnePoint.with("flaw", 0, 2, 2);
                onSeveral = onSeveral.with("flaw", 0, i % 3, i / 3);
            }
            for (int let = 0; let <= 3; let++) {
                onOnePoint.with("let", 0, 0, let).keeps(flaws <= let ? 0 : NONE, "fits", 0, 0);
                onSeveral.with("let", 0, 0, let).keeps(flaws <= let ? 0 : NONE, "fits", 0, 0);
            }
        }
    }

    private static void fitsByLastPoints() {
        about("on the POINTS from (0, 0) on that it would take");
        Scene slab = NEW.with("slab", 6, 6, 0).with("kind", 4, 2, 30);
        for (int x = 0; x < 6; x++) {
            for (int y = 0; y < 6; y++) {
                Scene flawed = slab.with("flaw", 0, x, y);
                flawed.with("let", 0, 1, 0).answers(x < 4 && y < 2 ? NONE : 0, "fits", 0, 0);
                flawed.with("let", 0, 2, 0).answers(x < 2 && y < 4 ? NONE : 1, "fits", 0, 0);
                flawed.with("let", 0, 1, 1).answers(0, "fits", 0, 0);
                flawed.with("let", 0, 2, 1).answers(1, "fits", 0, 0);
            }
        }
        Scene exact = NEW.with("slab", 4, 2, 0).with("kind", 4, 2, 30);
        exact.with("flaw", 0, 3, 1).keeps(NONE, "fits", 0, 0);
        exact.with("flaw", 0, 0, 0).keeps(NONE, "fits", 0, 0);
    }

    private static void fitsInTheFirstManner() {
        about("fits(): the first manner, the other one if FLAWS are only in the first");
        Scene slab = NEW.with("slab", 6, 6, 0).with("kind", 4, 2, 30);
        slab.keeps(0, "fits", 0, 0);
        Scene first = slab.with("flaw", 0, 3, 1);
        first.keeps(1, "fits", 0, 0);
        first.with("let", 0, 1, 0).keeps(NONE, "fits", 0, 0);
        first.with("let", 0, 2, 0).keeps(1, "fits", 0, 0);
        slab.with("flaw", 0, 1, 3).keeps(0, "fits", 0, 0);
        first.with("flaw", 0, 1, 3).keeps(NONE, "fits", 0, 0);
        slab.with("flaw", 0, 1, 1).keeps(NONE, "fits", 0, 0);
    }

    private static void fitsWhatIsGone() {
        about("fits(): NONE, if it does not, or the SLAB is not THERE");
        Scene gone = gone();
        for (int slab = 0; slab <= 2; slab++) {
            gone.keeps(NONE, "fits", slab, 0);
        }
        gone.keeps(NONE, "fits", 3, 0);
        gone.with("slab", 5, 4, 0).keeps(0, "fits", 5, 0);
    }

    private static void fitsRefused() {
        about("fits(): throws IndexOutOfBoundsException if there is no such SLAB, or KIND");
        Scene gone = gone();
        for (int none : noneOf(5)) {
            gone.keeps(INDEX, "fits", none, 0);
        }
        for (int none : noneOf(1)) {
            gone.keeps(INDEX, "fits", 3, none);
            gone.keeps(INDEX, "fits", 0, none);
            gone.keeps(INDEX, "fits", none, none);
        }
        NEW.with("slab", 5, 4, 0).keeps(INDEX, "fits", 0, 0);
        NEW.with("kind", 5, 4, 9).keeps(INDEX, "fits", 0, 0);
        for (int none : noneOf(40)) {
            full().keeps(INDEX, "fits", none, 5);
        }
        for (int none : noneOf(6)) {
            full().keeps(INDEX, "fits", 39, none);
        }
        full().keeps(0, "fits", 39, 5);
    }

    private static void takeCutsByKerf() {
        about("the SLAB is CUT DOWN .. if the SLAB is WIDER by more than KERF; then, ACROSS .. "
                + "if that is HIGHER by more than KERF");
        for (int kerf = 0; kerf <= 2; kerf++) {
            for (int moreWide : OVERS) {
                for (int moreHigh : OVERS) {
                    takeCuts(kerf, 0, 5, 3, moreWide, moreHigh);
                    takeCuts(kerf, 1, 3, 5, moreWide, moreHigh);
                    takeCuts(kerf, 0, 1, 1, moreWide, moreHigh);
                }
            }
        }
    }

    /** A KIND of 5 and 3 (or 1 and 1) that lies so WIDE and HIGH, and what each SLAB then tells. */
    private static void takeCuts(int kerf, int manner, int wide, int high, int moreWide, int moreHigh) {
        int slabWide = wide + moreWide;
        int slabHigh = high + moreHigh;
        Scene taken = NEW.with("kerf", kerf).with("slab", slabWide, slabHigh, 0)
                .with("kind", Math.max(wide, high), Math.min(wide, high), 40).with("let", 0, manner + 1, 0)
                .with("order", 0, 1).goes(40, "take", 0, 0);
        boolean isDown = moreWide > kerf;
        boolean isAcross = moreHigh > kerf;
        int[][] told = new int[1 + (isDown ? 2 : 0) + (isAcross ? 2 : 0)][];
        told[0] = new int[] {slabWide, slabHigh, 0, 0, NONE, isDown || isAcross ? CUT : TAKEN};
        if (isDown) {
            told[1] = new int[] {wide, slabHigh, 0, 0, 0, isAcross ? CUT : TAKEN};
            told[2] = new int[] {moreWide - kerf, slabHigh, 0, 0, 0, THERE};
        }
        if (isAcross) {
            int from = isDown ? 1 : 0;
            int stone = told.length - 2;
            told[stone] = new int[] {isDown ? wide : slabWide, high, 0, 0, from, TAKEN};
            told[stone + 1] = new int[] {isDown ? wide : slabWide, moreHigh - kerf, 0, 0, from, THERE};
        }
        taken.slabsTell(0, told);
        int there = (isDown ? (moreWide - kerf) * slabHigh : 0)
                + (isAcross ? (isDown ? wide : slabWide) * (moreHigh - kerf) : 0);
        taken.answers(there, "many", 7);
        taken.answers(slabWide * slabHigh - there - wide * high, "many", 5);
    }

    private static void takeStoneKeepsWhatIsMore() {
        about("it is TAKEN, so GONE at once, as WIDE and HIGH as it is; what is more is lost");
        Scene taken = NEW.with("kerf", 2).with("slab", 24, 24, 1).with("kind", 22, 22, 999).with("order", 0, 1)
                .goes(999, "take", 0, 0);
        taken.slabsTell(0, new int[] {24, 24, 1, 0, NONE, TAKEN});
        taken.answers(24 * 24 - 22 * 22, "many", 5);
        taken.answers(0, "many", 1);
        taken.keeps(NONE, "fits", 0, 0);
        about("WASTE is 0 when the stone is all of the SLAB, and without a KERF");
        NEW.with("slab", 24, 24, 0).with("kind", 24, 24, 999).with("take", 0, 0).answers(0, "many", 5);
        NEW.with("kerf", 0).with("slab", 9, 9, 0).with("kind", 4, 4, 9).with("take", 0, 0).answers(0, "many", 5);
        about("WASTE is all, when all was THROWN away");
        NEW.with("slab", 24, 24, 0).with("toss", 0).answers(576, "many", 5);
    }

    private static void takeInTheFirstManner() {
        about("in the first manner in which it does");
        Scene slab = NEW.with("slab", 6, 6, 0).with("kind", 4, 2, 40);
        slab.with("take", 0, 0).slabsTell(0, new int[] {6, 6, 0, 0, NONE, CUT}, new int[] {4, 6, 0, 0, 0, CUT},
                new int[] {1, 6, 0, 0, 0, THERE}, new int[] {4, 2, 0, 0, 1, TAKEN}, new int[] {4, 3, 0, 0, 1, THERE});
        slab.with("flaw", 0, 3, 1).with("take", 0, 0).slabsTell(0, new int[] {6, 6, 0, 1, NONE, CUT},
                new int[] {2, 6, 0, 0, 0, CUT}, new int[] {3, 6, 0, 1, 0, THERE},
                new int[] {2, 4, 0, 0, 1, TAKEN}, new int[] {2, 1, 0, 0, 1, THERE});
    }

    private static void takePassesFlaws() {
        about("take(): the FLAWS that are LET are on the stone, those on what is left stay there");
        Scene taken = NEW.with("slab", 9, 9, 0).with("kind", 4, 4, 40).with("let", 0, 0, 3)
                .with("flaw", 0, 3, 3).with("flaw", 0, 3, 3).with("flaw", 0, 0, 0)
                .with("flaw", 0, 4, 0).with("flaw", 0, 5, 8).with("flaw", 0, 3, 5).with("take", 0, 0);
        taken.slabsTell(0, new int[] {9, 9, 0, 6, NONE, CUT}, new int[] {4, 9, 0, 4, 0, CUT},
                new int[] {4, 9, 0, 1, 0, THERE}, new int[] {4, 4, 0, 3, 1, TAKEN}, new int[] {4, 4, 0, 1, 1, THERE});
        taken.answers(2, "flawsAt", 3, 3, 3);
        taken.answers(1, "flawsAt", 2, 0, 8);
        taken.answers(1, "flawsAt", 4, 3, 0);
    }

    private static void takePays() {
        about("its PRICE is paid; for a stone that is not WANTED PRICE / 4 is paid. "
                + "Then the PRICE of that KIND becomes PRICE * 9 / 10 (1 at the least)");
        // Each row: the PRICE, a quarter of it, and the PRICE behind it.
        int[][] rows = {{1, 0, 1}, {2, 0, 1}, {3, 0, 2}, {4, 1, 3}, {5, 1, 4}, {7, 1, 6}, {8, 2, 7}, {9, 2, 8},
            {10, 2, 9}, {11, 2, 9}, {12, 3, 10}, {19, 4, 17}, {20, 5, 18}, {998, 249, 898}, {999, 249, 899}};
        for (int[] row : rows) {
            Scene one = NEW.with("slab", 2, 2, 0).with("kind", 2, 2, row[0]);
            Scene notWanted = one.goes(row[1], "take", 0, 0);
            notWanted.kindTells(0, 2, 2, 0, 0, row[2], 0, 1, row[1]);
            notWanted.answers(row[1], "many", 4);
            Scene wanted = one.with("order", 0, 2).goes(row[0], "take", 0, 0);
            wanted.kindTells(0, 2, 2, 0, 0, row[2], 1, 1, row[0]);
            wanted.answers(row[0], "many", 4);
        }
    }

    private static void takeLowersWanted() {
        about("The KIND is WANTED one less (if it is)");
        Scene two = slabs(NEW.with("kind", 2, 2, 100).with("order", 0, 1), 3);
        Scene last = two.goes(100, "take", 0, 0);
        last.kindTells(0, 2, 2, 0, 0, 90, 0, 1, 100);
        Scene none = last.goes(22, "take", 1, 0);
        none.kindTells(0, 2, 2, 0, 0, 81, 0, 2, 122);
        none.goes(20, "order", 0, 20).goes(81, "take", 2, 0).kindTells(0, 2, 2, 0, 0, 72, 19, 3, 203);
    }

    private static void takeRaisesOthers() {
        about("that of each other one that is WANTED 1 more (999 at most)");
        Scene kinds = NEW.with("slab", 2, 2, 0)
                .with("kind", 2, 2, 100).with("kind", 9, 9, 1).with("kind", 9, 9, 998)
                .with("kind", 9, 9, 999).with("kind", 9, 9, 1).with("kind", 9, 9, 999)
                .with("order", 1, 1).with("order", 2, 20).with("order", 3, 1);
        int[] behind = {90, 2, 999, 999, 1, 999};
        Scene notWanted = kinds.goes(25, "take", 0, 0);
        Scene wanted = kinds.with("order", 0, 2).goes(100, "take", 0, 0);
        for (int kind = 0; kind < 6; kind++) {
            notWanted.answers(behind[kind], "ofKind", kind, 4);
            wanted.answers(behind[kind], "ofKind", kind, 4);
        }
        wanted.answers(1, "ofKind", 0, 5);
        wanted.answers(1 + 20 + 1 + 1, "many", 6);
    }

    private static void takeNotFitting() {
        about("take(): throws IllegalStateException if it does not FIT (or the SLAB is not THERE)");
        Scene gone = gone();
        for (int slab = 0; slab <= 4; slab++) {
            gone.keeps(STATE, "take", slab, 0);
        }
        gone.with("kind", 2, 4, 8).goes(2, "take", 4, 1);
        NEW.with("slab", 5, 4, 0).with("kind", 6, 1, 9).keeps(STATE, "take", 0, 0);
        NEW.with("slab", 5, 4, 0).with("kind", 5, 5, 9).keeps(STATE, "take", 0, 0);
        NEW.with("slab", 5, 4, 0).with("kind", 5, 4, 9).with("let", 0, 2, 0).keeps(STATE, "take", 0, 0);
        Scene flawed = NEW.with("slab", 5, 4, 0).with("flaw", 0, 4, 3).with("kind", 5, 4, 9);
        flawed.keeps(STATE, "take", 0, 0);
        flawed.with("let", 0, 0, 1).goes(2, "take", 0, 0);
    }

    private static void takeWhenFull() {
        about("take(): throws IllegalStateException if there were more than 36 SLABS");
        Scene kinds = NEW.with("kind", 2, 2, 40).with("kind", 1, 1, 40);
        Scene thirtySix = slabs(kinds.with("kerf", 0), 36);
        thirtySix.goes(10, "take", 35, 0).answers(36, "many", 0);
        Scene forty = thirtySix.goes(10, "take", 35, 1);
        forty.answers(40, "many", 0);
        forty.answers(TAKEN, "ofSlab", 38, 5);
        forty.keeps(STATE, "take", 34, 1);
        for (int count = 37; count <= 40; count++) {
            Scene slabs = slabs(kinds, count);
            slabs.keeps(STATE, "take", 0, 0);
            slabs.keeps(STATE, "take", count - 1, 1);
            slabs.with("toss", 1).with("toss", 2).keeps(STATE, "take", 0, 0);
        }
    }

    private static void takeRefused() {
        about("take(): throws IndexOutOfBoundsException if there is no such SLAB, or KIND, ahead of the other one");
        Scene gone = gone();
        for (int none : noneOf(5)) {
            gone.keeps(INDEX, "take", none, 0);
        }
        for (int none : noneOf(1)) {
            gone.keeps(INDEX, "take", 0, none);
            gone.keeps(INDEX, "take", 3, none);
            gone.keeps(INDEX, "take", none, none);
        }
        for (int none : noneOf(40)) {
            full().keeps(INDEX, "take", none, 0);
        }
        for (int none : noneOf(6)) {
            full().keeps(INDEX, "take", 0, none);
        }
        full().keeps(STATE, "take", 39, 5);
    }
}
