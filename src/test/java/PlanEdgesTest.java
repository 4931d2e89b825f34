/** The boundary cases of "4 A PLAN" and of the promises 16 to 18 and 24, sentence by sentence. */
public final class PlanEdgesTest extends Edges {
    public static void main(String[] args) {
        planMost();
        planMostRefused();
        planEndsByItself();
        planByPrice();
        planByArea();
        planByNumbers();
        planLeavesOut();
        planByNewPrices();
        planAtThirtySix();
        planWithoutCuts();
        planBeyondThirtySix();
        planPaysRefused();
        planPaysWhenNothingIs();
        planPaysAsPlan();
        planPaysByFlaws();
        planPaysAgain();
        manyRefused();
        manyOfAll();
        manyOfStones();
        meanAreas();
        Scene.end();
    }

    private static Scene stones(int slabs, int wanted) {
        return slabs(NEW.with("kind", 2, 2, 40).with("order", 0, wanted), slabs);
    }

    private static void planMost() {
        about("plan(): how many stones at most; returns how many were TAKEN");
        Scene thirty = stones(30, 20).with("kind", 2, 2, 40).with("order", 1, 20);
        for (int most = 1; most <= 20; most++) {
            Scene planned = thirty.goes(most, "plan", most);
            planned.answers(most, "many", 3);
            planned.answers(40 - most, "many", 6);
        }
        Scene twenty = thirty.with("plan", 20);
        twenty.goes(10, "plan", 20).keeps(0, "plan", 20);
        twenty.goes(1, "plan", 1).goes(9, "plan", 9).keeps(0, "plan", 1);
    }

    private static void planMostRefused() {
        about("plan(): throws IllegalArgumentException if most is not 1 to 20");
        Scene some = stones(5, 5);
        for (int wrong : outside(1, 20)) {
            NEW.keeps(ARGUMENT, "plan", wrong);
            some.keeps(ARGUMENT, "plan", wrong);
            full().keeps(ARGUMENT, "plan", wrong);
        }
    }

    private static void planEndsByItself() {
        about("as long as a KIND that is WANTED FITS a SLAB that is THERE");
        NEW.keeps(0, "plan", 1);
        NEW.with("slab", 5, 5, 0).keeps(0, "plan", 20);
        NEW.with("kind", 2, 2, 9).with("order", 0, 9).keeps(0, "plan", 20);
        slabs(NEW.with("kind", 2, 2, 9), 3).keeps(0, "plan", 20);
        stones(3, 20).goes(3, "plan", 20).answers(17, "ofKind", 0, 5);
        stones(4, 3).goes(3, "plan", 20).answers(1, "many", 1);
        stones(1, 1).goes(1, "plan", 1).keeps(0, "plan", 1);
        stones(2, 2).with("toss", 0).with("toss", 1).keeps(0, "plan", 20);
        stones(2, 2).with("flaw", 0, 1, 1).goes(1, "plan", 20).keeps(0, "plan", 20);
        NEW.with("slab", 5, 4, 0).with("kind", 6, 1, 9).with("order", 0, 1).keeps(0, "plan", 20);
        NEW.with("slab", 5, 4, 0).with("kind", 5, 4, 9).with("order", 0, 1).with("let", 0, 2, 0).keeps(0, "plan", 20);
    }

    private static void planByPrice() {
        about("of all these pairs the one is TAKEN with the greatest PRICE");
        Scene dearAndLarge = NEW.with("slab", 2, 2, 0).with("slab", 9, 9, 0)
                .with("kind", 2, 2, 20).with("kind", 8, 8, 21).with("order", 0, 1).with("order", 1, 1);
        Scene planned = dearAndLarge.goes(1, "plan", 1);
        planned.answers(1, "ofKind", 1, 6);
        planned.answers(THERE, "ofSlab", 0, 5);
        Scene both = dearAndLarge.goes(2, "plan", 2);
        both.answers(21 + 21, "many", 4);
        Scene dearFirst = NEW.with("slab", 9, 9, 0).with("slab", 2, 2, 0)
                .with("kind", 8, 8, 21).with("kind", 2, 2, 20).with("order", 0, 1).with("order", 1, 1).goes(1, "plan", 1);
        dearFirst.answers(1, "ofKind", 0, 6);
        dearFirst.answers(THERE, "ofSlab", 1, 5);
        Scene oneDearer = stones(1, 1).with("kind", 2, 2, 41).with("order", 1, 1).goes(1, "plan", 1);
        oneDearer.answers(1, "ofKind", 1, 6);
        oneDearer.answers(41, "ofKind", 0, 4);
    }

    private static void planByArea() {
        about("of several that of the SLAB with the smallest AREA");
        Scene area = NEW.with("slab", 3, 5, 0).with("slab", 2, 7, 0).with("slab", 4, 4, 0)
                .with("kind", 2, 2, 20).with("order", 0, 9);
        Scene planned = area.goes(1, "plan", 1);
        planned.answers(CUT, "ofSlab", 1, 5);
        planned.answers(THERE, "ofSlab", 0, 5);
        planned.answers(THERE, "ofSlab", 2, 5);
        about("the smallest AREA is looked at ahead of the KIND with the smallest number");
        Scene other = NEW.with("slab", 5, 5, 0).with("slab", 2, 2, 0).with("kind", 5, 5, 20).with("kind", 2, 2, 20)
                .with("order", 0, 1).with("order", 1, 1).goes(1, "plan", 1);
        other.answers(1, "ofKind", 1, 6);
        other.answers(TAKEN, "ofSlab", 1, 5);
        other.answers(0, "ofKind", 0, 6);
    }

    private static void planByNumbers() {
        about("then with the smallest number");
        Scene number = NEW.with("slab", 3, 4, 0).with("slab", 2, 6, 0).with("slab", 6, 2, 0)
                .with("kind", 2, 2, 20).with("order", 0, 9).goes(1, "plan", 1);
        number.answers(CUT, "ofSlab", 0, 5);
        number.answers(THERE, "ofSlab", 1, 5);
        about("the SLAB with the smallest number is looked at ahead of the KIND with the smallest number");
        Scene slabFirst = NEW.with("slab", 3, 4, 0).with("slab", 2, 6, 0).with("kind", 6, 2, 20).with("kind", 4, 3, 20)
                .with("order", 0, 1).with("order", 1, 1).goes(1, "plan", 1);
        slabFirst.answers(1, "ofKind", 1, 6);
        slabFirst.answers(TAKEN, "ofSlab", 0, 5);
        about("then of the KIND with the smallest number");
        Scene kind = NEW.with("slab", 9, 9, 0).with("kind", 9, 9, 19).with("kind", 4, 4, 20).with("kind", 3, 3, 20)
                .with("order", 0, 1).with("order", 1, 1).with("order", 2, 1).goes(1, "plan", 1);
        kind.answers(0, "ofKind", 0, 6);
        kind.answers(1, "ofKind", 1, 6);
        kind.answers(0, "ofKind", 2, 6);
    }

    private static void planLeavesOut() {
        about("a KIND that is not WANTED, a SLAB that is GONE or that it does not FIT, is no pair");
        Scene scene = NEW.with("slab", 2, 2, 0).with("slab", 3, 3, 0).with("slab", 4, 4, 0).with("slab", 9, 9, 0)
                .with("kind", 2, 2, 999).with("kind", 2, 2, 20).with("order", 1, 1)
                .with("toss", 0).with("flaw", 1, 0, 0).with("flaw", 2, 2, 2).goes(1, "plan", 20);
        scene.answers(0, "ofKind", 0, 6);
        scene.answers(THROWN, "ofSlab", 0, 5);
        scene.answers(THERE, "ofSlab", 1, 5);
        scene.answers(CUT, "ofSlab", 2, 5);
        scene.answers(THERE, "ofSlab", 3, 5);
    }

    private static void planByNewPrices() {
        about("plan(): each pair by the PRICES as they are then");
        Scene two = slabs(NEW.with("kind", 2, 2, 100).with("kind", 2, 2, 95).with("order", 0, 5).with("order", 1, 5), 9);
        // 100 to 90 against 96; 96 to 86 against 91; 91 to 81 against 87; 87 to 78 against 82.
        int[] paid = {100, 196, 287, 374};
        for (int most = 1; most <= 4; most++) {
            two.keeps(paid[most - 1], "planPays", most);
            two.goes(most, "plan", most).answers(paid[most - 1], "many", 4);
        }
        Scene planned = two.with("plan", 4);
        planned.answers(2, "ofKind", 0, 6);
        planned.answers(2, "ofKind", 1, 6);
        planned.answers(82, "ofKind", 0, 4);
        planned.answers(78, "ofKind", 1, 4);
        about("plan(): at the least PRICE it goes on");
        slabs(NEW.with("kind", 2, 2, 1).with("order", 0, 9), 9).goes(9, "plan", 9).answers(9, "many", 4);
    }

    private static void planAtThirtySix() {
        about("and there were not more than 36 SLABS ever ahead of each");
        // Each stone of 2 and 2 out of 9 and 9 takes four SLABS more, as long as there are large ones.
        Scene kind = NEW.with("kind", 2, 2, 40).with("order", 0, 20);
        for (int count = 33; count <= 40; count++) {
            Scene slabs = kind;
            for (int i = 0; i < count; i++) {
                slabs = slabs.and("slab", 9, 9, 0);
            }
            if (count <= 36) {
                Scene planned = slabs.goes(1, "plan", 20);
                planned.answers(count + 4, "many", 0);
                planned.keeps(0, "plan", 20);
                slabs.keeps(40, "planPays", 20);
            } else {
                slabs.keeps(0, "plan", 20);
                slabs.keeps(0, "plan", 1);
                slabs.keeps(0, "planPays", 20);
            }
        }
    }

    private static void planWithoutCuts() {
        about("plan(): with 36 SLABS it goes on, if no stone needs a CUT");
        Scene all = stones(36, 20);
        all.goes(20, "plan", 20).goes(20, "order", 0, 20).goes(16, "plan", 20).answers(36, "many", 3);
    }

    private static void planBeyondThirtySix() {
        about("plan(): with more than 36 SLABS ever it does not go on, also if no stone needs a CUT");
        for (int count = 37; count <= 40; count++) {
            stones(count, 20).keeps(0, "plan", 20);
            stones(count, 20).with("toss", 3).with("toss", 4).keeps(0, "plan", 20);
            stones(count, 20).keeps(0, "planPays", 20);
        }
        full().keeps(0, "plan", 20);
    }

    private static void planPaysRefused() {
        about("planPays(): throws IllegalArgumentException if most is not 1 to 20");
        Scene some = stones(5, 5);
        for (int wrong : outside(1, 20)) {
            NEW.keeps(ARGUMENT, "planPays", wrong);
            some.keeps(ARGUMENT, "planPays", wrong);
            full().keeps(ARGUMENT, "planPays", wrong);
        }
    }

    private static void planPaysWhenNothingIs() {
        about("planPays(): 0 if plan() would take nothing");
        NEW.keeps(0, "planPays", 1);
        NEW.with("slab", 5, 5, 0).keeps(0, "planPays", 20);
        NEW.with("kind", 2, 2, 9).with("order", 0, 9).keeps(0, "planPays", 20);
        slabs(NEW.with("kind", 2, 2, 9), 3).keeps(0, "planPays", 20);
        stones(1, 1).with("plan", 1).keeps(0, "planPays", 20);
        full().keeps(0, "planPays", 20);
    }

    private static void planPaysAsPlan() {
        about("Returns what would be paid, if plan() was asked for so many");
        Scene scene = NEW.with("slab", 24, 24, 0).with("slab", 13, 9, 1).with("flaw", 0, 2, 2).with("flaw", 1, 12, 8)
                .with("kind", 5, 3, 90).with("kind", 4, 4, 85).with("kind", 7, 2, 40)
                .with("let", 0, 1, 1).with("let", 2, 2, 0)
                .with("order", 0, 9).with("order", 1, 3).with("order", 2, 1).with("take", 0, 0);
        int before = (Integer) scene.answer("many", 4);
        for (int most = 1; most <= 20; most++) {
            int behind = (Integer) scene.and("plan", most).answer("many", 4);
            scene.keeps(behind - before, "planPays", most);
        }
    }

    private static void planPaysByFlaws() {
        about("planPays(): by the FLAWS that there are, and those that are LET");
        Scene slab = NEW.with("slab", 6, 6, 0).with("kind", 4, 4, 40).with("order", 0, 1);
        for (int x = 0; x < 6; x++) {
            for (int y = 0; y < 6; y++) {
                Scene flawed = slab.with("flaw", 0, x, y);
                flawed.answers(x < 4 && y < 4 ? 0 : 40, "planPays", 1);
                flawed.answers(x < 4 && y < 4 ? 0 : 1, "plan", 1);
                flawed.with("let", 0, 0, 1).answers(40, "planPays", 1);
            }
        }
        Scene six = slab;
        for (int flaws = 1; flaws <= 6; flaws++) {
            six = six.with("flaw", 0, 3, 3);
            for (int let = 0; let <= 3; let++) {
                six.with("let", 0, 0, let).keeps(flaws <= let ? 40 : 0, "planPays", 20);
            }
        }
    }

    private static void planPaysAgain() {
        about("planPays(): nothing is changed, so it answers the same again");
        Scene slab = NEW.with("slab", 9, 9, 0).with("flaw", 0, 0, 0).with("flaw", 0, 5, 1)
                .with("kind", 4, 4, 40).with("let", 0, 0, 1).with("order", 0, 9).with("kind", 2, 2, 9).with("order", 1, 9);
        for (int most = 1; most <= 20; most++) {
            Object pays = slab.answer("planPays", most);
            slab.and("planPays", most).answers(pays, "planPays", most);
            slab.and("planPays", 20).and("planPays", 20).answers(pays, "planPays", most);
            slab.and("wasteBy", 0, 0).and("worthMore", 0, 999).answers(pays, "planPays", most);
        }
    }

    private static void manyRefused() {
        about("many(): throws IllegalArgumentException if what is not 0 to 7");
        for (int wrong : outside(0, 7)) {
            NEW.keeps(ARGUMENT, "many", wrong);
            gone().keeps(ARGUMENT, "many", wrong);
            full().keeps(ARGUMENT, "many", wrong);
        }
    }

    private static void manyOfAll() {
        about("many(): of all that there can be");
        int[] due = {40, 40, 6, 0, 0, 0, 120, 23040};
        for (int what = 0; what <= 7; what++) {
            full().keeps(due[what], "many", what);
        }
        Scene thrown = full();
        for (int slab = 0; slab < 40; slab++) {
            thrown = thrown.and("toss", slab);
        }
        int[] dueThen = {40, 0, 6, 0, 0, 23040, 120, 0};
        for (int what = 0; what <= 7; what++) {
            thrown.answers(dueThen[what], "many", what);
        }
    }

    private static void manyOfStones() {
        about("many(): 3 stones TAKEN, 4 what was paid for all, 5 WASTE, 6 how many are WANTED of all KINDS");
        int[] due = {5, 2, 1, 1, 5, 20 - 16 + 20, 0, 16};
        for (int what = 0; what <= 7; what++) {
            gone().keeps(due[what], "many", what);
        }
        Scene all = stones(36, 20).with("plan", 20).with("order", 0, 20).with("plan", 20);
        int[] dueThen = {36, 0, 1, 36, 0, 0, 4, 0};
        int price = 40;
        for (int stone = 0; stone < 36; stone++) {
            dueThen[4] += price;
            price = Math.max(1, price * 9 / 10);
        }
        for (int what = 0; what <= 7; what++) {
            all.answers(dueThen[what], "many", what);
        }
    }

    private static void meanAreas() {
        about("the mean AREA of SLABS that are THERE, not cut; 0 without any");
        NEW.keeps(0.0, "meanArea");
        Scene one = NEW.with("slab", 1, 1, 0);
        one.keeps(1.0, "meanArea");
        one.with("toss", 0).keeps(0.0, "meanArea");
        NEW.with("slab", 24, 24, 0).keeps(576.0, "meanArea");
        one.with("slab", 1, 2, 0).keeps(1.5, "meanArea");
        one.with("slab", 1, 1, 0).with("slab", 2, 1, 0).keeps(4.0 / 3.0, "meanArea");
        one.with("slab", 2, 1, 0).with("slab", 2, 1, 0).keeps(5.0 / 3.0, "meanArea");
        gone().keeps(8.0, "meanArea");
        gone().with("toss", 3).with("toss", 4).keeps(0.0, "meanArea");
        full().keeps(576.0, "meanArea");
        full().with("toss", 39).keeps(576.0, "meanArea");
    }
}
