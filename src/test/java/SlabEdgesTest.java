/** The boundary cases of "1 SLABS" and of the promises 1 to 9, sentence by sentence. */
public final class SlabEdgesTest extends Edges {
    public static void main(String[] args) {
        newObject();
        lastCall();
        sizesOfSlab();
        sizesOfSlabRefused();
        grainOfSlab();
        fortySlabs();
        fortySlabsEver();
        wrongSlabWhenFull();
        numbersOfSlabs();
        pointsOfFlaw();
        pointsOfFlawRefused();
        sixFlaws();
        sixFlawsFromAnotherSlab();
        flawsOfSlabsThatAreGone();
        flawNoSuchSlab();
        kerfs();
        kerfRefused();
        placesOfCut();
        placesOfCutRefused();
        narrowestCut();
        flawsBesideTheCut();
        allFlawsOnOnePart();
        grainsOfParts();
        cutKeepsAllAsItWasTold();
        cutNoSuchSlab();
        cutNotThere();
        cutWithThirtyEight();
        cutWithMoreThanThirtyEight();
        areasTossed();
        tossRefused();
        ofSlabTellsAllFates();
        ofSlabRefused();
        flawsAtPoints();
        flawsAtRefused();
        rootsOfParts();
        deepestRoot();
        rootRefused();
        Scene.end();
    }

    private static void newObject() {
        about("Creates a yard without SLABS and KINDS");
        for (int what = 0; what <= 7; what++) {
            NEW.keeps(0, "many", what);
        }
        NEW.keeps(0.0, "meanArea");
        for (int none : noneOf(0)) {
            NEW.keeps(INDEX, "flaw", none, 0, 0);
            NEW.keeps(INDEX, "cut", none, DOWN, 1);
            NEW.keeps(INDEX, "cut", none, ACROSS, 1);
            NEW.keeps(INDEX, "toss", none);
            NEW.keeps(INDEX, "ofSlab", none, 0);
            NEW.keeps(INDEX, "flawsAt", none, 0, 0);
            NEW.keeps(INDEX, "root", none);
            NEW.keeps(INDEX, "let", none, 0, 0);
            NEW.keeps(INDEX, "order", none, 1);
            NEW.keeps(INDEX, "ofKind", none, 0);
            NEW.keeps(INDEX, "fits", none, none);
            NEW.keeps(INDEX, "take", none, none);
            NEW.keeps(INDEX, "column", 1, 1, 0, none);
            NEW.keeps(INDEX, "worthMore", none, 1);
            NEW.keeps(INDEX, "wasteBy", none, none);
        }
        NEW.keeps(0, "plan", 20);
        NEW.keeps(0, "planPays", 20);
        NEW.keeps(0, "worth", 24, 24, 0);
        NEW.keeps(NONE, "bestCut", 24, 24, 1);
        NEW.digests();
    }

    private static void lastCall() {
        about("An object is used for at most 512 calls after it has been made");
        Scene five = NEW.with("slab", 24, 24, 0).with("slab", 9, 9, 1).with("slab", 9, 9, 1)
                .with("kind", 4, 3, 40).with("order", 0, 20);
        Scene nearlyAll = five;
        for (int call = 5; call < 511; call++) {
            nearlyAll = nearlyAll.and(call % 2 == 0 ? "plan" : "kerf", -1);
        }
        nearlyAll.answers(five.answer("digest"), "digest");
        nearlyAll.answers(3, "slab", 1, 1, 0);
        nearlyAll.answers(1, "flaw", 0, 23, 23);
        nearlyAll.answers(1, "kerf", 2);
        nearlyAll.answers(3, "cut", 0, DOWN, 22);
        nearlyAll.answers(81, "toss", 2);
        nearlyAll.answers(1, "kind", 1, 1, 1);
        nearlyAll.answers(40, "take", 1, 0);
        nearlyAll.answers(1, "plan", 1);
        nearlyAll.answers(246.0, "meanArea");
        nearlyAll.answers(ARGUMENT, "kerf", 3);
        nearlyAll.answers(INDEX, "root", 3);
    }

    private static void sizesOfSlab() {
        about("each WIDE and HIGH, 1 to 24 each");
        int[][] sizes = {{1, 1}, {24, 24}, {1, 24}, {24, 1}, {2, 23}};
        for (int[] s : sizes) {
            NEW.goes(0, "slab", s[0], s[1], 0).slabsTell(0, new int[] {s[0], s[1], 0, 0, NONE, THERE});
        }
    }

    private static void sizesOfSlabRefused() {
        about("Throws IllegalArgumentException if wide or high is not 1 to 24");
        Scene one = NEW.with("slab", 5, 4, 0);
        for (int wrong : outside(1, 24)) {
            one.keeps(ARGUMENT, "slab", wrong, 1, 0);
            one.keeps(ARGUMENT, "slab", wrong, 24, 1);
            one.keeps(ARGUMENT, "slab", 1, wrong, 0);
            one.keeps(ARGUMENT, "slab", 24, wrong, 1);
            one.keeps(ARGUMENT, "slab", wrong, wrong, 0);
        }
    }

    private static void grainOfSlab() {
        about("with a GRAIN, 0 or 1; throws IllegalArgumentException if grain is not 0 or 1");
        for (int grain = 0; grain <= 1; grain++) {
            NEW.goes(0, "slab", 7, 3, grain).slabsTell(0, new int[] {7, 3, grain, 0, NONE, THERE});
        }
        for (int wrong : outside(0, 1)) {
            NEW.keeps(ARGUMENT, "slab", 7, 3, wrong);
        }
    }

    private static void fortySlabs() {
        about("at most 40 ever; throws IllegalStateException if there were 40");
        Scene all = slabs(39).goes(39, "slab", 24, 24, 1);
        all.answers(40, "many", 0);
        all.answers(40, "many", 1);
        all.answers(24, "ofSlab", 39, 0);
        all.keeps(STATE, "slab", 1, 1, 0);
        all.keeps(STATE, "slab", 24, 24, 1);
    }

    private static void fortySlabsEver() {
        about("there were 40, also if some are GONE");
        Scene thrown = slabs(40);
        for (int slab = 0; slab < 40; slab++) {
            thrown = thrown.with("toss", slab);
        }
        thrown.answers(0, "many", 1);
        thrown.keeps(STATE, "slab", 2, 2, 0);
        slabs(gone(), 35).keeps(STATE, "slab", 2, 2, 0);
        slabs(gone(), 34).goes(39, "slab", 2, 2, 0).answers(40, "many", 0);
    }

    private static void wrongSlabWhenFull() {
        about("slab(): IllegalArgumentException is named ahead of IllegalStateException");
        Scene all = slabs(40);
        all.keeps(ARGUMENT, "slab", 0, 1, 0);
        all.keeps(ARGUMENT, "slab", 25, 1, 0);
        all.keeps(ARGUMENT, "slab", 1, 0, 0);
        all.keeps(ARGUMENT, "slab", 1, 25, 0);
        all.keeps(ARGUMENT, "slab", 1, 1, -1);
        all.keeps(ARGUMENT, "slab", 1, 1, 2);
    }

    private static void numbersOfSlabs() {
        about("numbered from 0; returns its number, also behind SLABS that come of a CUT");
        NEW.goes(0, "slab", 5, 5, 0).goes(1, "slab", 5, 5, 0)
                .goes(2, "cut", 0, DOWN, 1).goes(4, "slab", 5, 5, 0)
                .goes(5, "cut", 3, ACROSS, 1).goes(7, "slab", 5, 5, 0);
    }

    private static void pointsOfFlaw() {
        about("x from 0 to WIDE - 1, y from 0 to HIGH - 1");
        int[][] sizes = {{1, 1}, {5, 3}, {3, 5}, {24, 24}, {24, 1}, {1, 24}};
        for (int[] s : sizes) {
            Scene one = NEW.with("slab", s[0], s[1], 0);
            int[][] corners = {{0, 0}, {s[0] - 1, 0}, {0, s[1] - 1}, {s[0] - 1, s[1] - 1}};
            for (int[] corner : corners) {
                Scene flawed = one.goes(1, "flaw", 0, corner[0], corner[1]);
                for (int[] other : corners) {
                    boolean isSame = other[0] == corner[0] && other[1] == corner[1];
                    flawed.answers(isSame ? 1 : 0, "flawsAt", 0, other[0], other[1]);
                }
            }
        }
    }

    private static void pointsOfFlawRefused() {
        about("flaw(): throws IndexOutOfBoundsException if there is no such POINT");
        int[][] sizes = {{1, 1}, {5, 3}, {3, 5}, {24, 24}};
        for (int[] s : sizes) {
            Scene one = NEW.with("slab", s[0], s[1], 0);
            for (int wrong : outside(0, s[0] - 1)) {
                one.keeps(INDEX, "flaw", 0, wrong, 0);
                one.keeps(INDEX, "flaw", 0, wrong, s[1] - 1);
            }
            for (int wrong : outside(0, s[1] - 1)) {
                one.keeps(INDEX, "flaw", 0, 0, wrong);
                one.keeps(INDEX, "flaw", 0, s[0] - 1, wrong);
            }
        }
    }

    private static void sixFlaws() {
        about("FLAWS, at most 6; throws IllegalStateException if it has 6");
        Scene onOnePoint = NEW.with("slab", 6, 6, 0);
        Scene onSeveral = onOnePoint;
        for (int i = 0; i < 6; i++) {
            onOnePoint.answers(i, "ofSlab", 0, 3);
            onOnePoint = onOnePoint.goes(i + 1, "flaw", 0, 5, 5);
            onSeveral = onSeveral.goes(i + 1, "flaw", 0, i, 5 - i);
        }
        onOnePoint.answers(6, "flawsAt", 0, 5, 5);
        onOnePoint.answers(6, "ofSlab", 0, 3);
        for (int i = 0; i < 6; i++) {
            onSeveral.answers(1, "flawsAt", 0, i, 5 - i);
        }
        onOnePoint.keeps(STATE, "flaw", 0, 5, 5);
        onOnePoint.keeps(STATE, "flaw", 0, 0, 0);
        onSeveral.keeps(STATE, "flaw", 0, 3, 3);
        about("flaw(): IndexOutOfBoundsException is named ahead of IllegalStateException");
        onOnePoint.keeps(INDEX, "flaw", 0, 6, 5);
        onOnePoint.keeps(INDEX, "flaw", 0, 5, 6);
        onOnePoint.keeps(INDEX, "flaw", 0, -1, 0);
        onOnePoint.keeps(INDEX, "flaw", 1, 5, 5);
        about("a SLAB with 6 FLAWS does not hinder another one");
        onOnePoint.with("slab", 1, 1, 0).goes(1, "flaw", 1, 0, 0);
    }

    private static void sixFlawsFromAnotherSlab() {
        about("it has 6 FLAWS, also if they were on the SLAB FROM which it comes");
        Scene five = NEW.with("slab", 9, 2, 0);
        for (int i = 0; i < 5; i++) {
            five = five.with("flaw", 0, i, 1);
        }
        Scene six = five.with("flaw", 0, 4, 0).with("cut", 0, DOWN, 5);
        six.answers(6, "ofSlab", 1, 3);
        six.keeps(STATE, "flaw", 1, 0, 0);
        six.goes(1, "flaw", 2, 0, 0);
        five.with("cut", 0, DOWN, 5).goes(6, "flaw", 1, 4, 0).keeps(STATE, "flaw", 1, 4, 0);
    }

    private static void flawsOfSlabsThatAreGone() {
        about("flaw(): throws IllegalStateException if it is not THERE");
        Scene gone = gone();
        for (int slab = 0; slab <= 2; slab++) {
            gone.keeps(STATE, "flaw", slab, 0, 0);
            gone.keeps(STATE, "flaw", slab, 4, 3);
            gone.keeps(INDEX, "flaw", slab, 5, 3);
            gone.keeps(INDEX, "flaw", slab, 4, 4);
            gone.keeps(INDEX, "flaw", slab, -1, 0);
            gone.keeps(INDEX, "flaw", slab, 0, -1);
        }
        gone.goes(1, "flaw", 3, 1, 3).goes(1, "flaw", 4, 1, 3);
    }

    private static void flawNoSuchSlab() {
        about("flaw(): throws IndexOutOfBoundsException if there is no such SLAB");
        Scene two = slabs(2);
        for (int none : noneOf(2)) {
            two.keeps(INDEX, "flaw", none, 0, 0);
        }
        two.goes(1, "flaw", 1, 0, 0).goes(1, "flaw", 0, 0, 0);
        for (int none : noneOf(40)) {
            full().keeps(INDEX, "flaw", none, 0, 0);
        }
        full().goes(1, "flaw", 39, 23, 23);
    }

    private static void kerfs() {
        about("There is a KERF, 0 to 2 (1, at first); returns the one before");
        for (int kerf = 0; kerf <= 2; kerf++) {
            Scene changed = NEW.goes(1, "kerf", kerf);
            for (int next = 0; next <= 2; next++) {
                changed.goes(kerf, "kerf", next).answers(next, "kerf", 1);
            }
        }
    }

    private static void kerfRefused() {
        about("Throws IllegalArgumentException if kerf is not 0 to 2");
        for (int kerf = 0; kerf <= 2; kerf++) {
            Scene changed = NEW.with("slab", 9, 9, 0).with("kind", 3, 3, 9).with("kerf", kerf);
            for (int wrong : outside(0, 2)) {
                changed.keeps(ARGUMENT, "kerf", wrong);
                changed.and("kerf", wrong).answers(kerf, "kerf", 0);
            }
        }
    }

    /** A SLAB that is so long in the direction in which it is CUT, and so broad in the other one. */
    private static Scene slabToCut(int kerf, int down, int length, int breadth) {
        return NEW.with("kerf", kerf)
                .with("slab", down == DOWN ? length : breadth, down == DOWN ? breadth : length, 1);
    }

    private static int[] part(int down, int length, int breadth) {
        return down == DOWN ? new int[] {length, breadth, 1, 0, 0, THERE} : new int[] {breadth, length, 1, 0, 0, THERE};
    }

    private static void placesOfCut() {
        about("the one k WIDE, the other one WIDE - k - KERF, both as HIGH; ACROSS likewise with HIGH");
        for (int kerf = 0; kerf <= 2; kerf++) {
            for (int down = 0; down <= 1; down++) {
                int[] lengths = {kerf + 3, 10, 24};
                for (int length : lengths) {
                    Scene slab = slabToCut(kerf, down, length, 3);
                    int last = length - kerf - 1;
                    slab.goes(1, "cut", 0, down, 1).slabsTell(1, part(down, 1, 3), part(down, last, 3));
                    slab.goes(1, "cut", 0, down, 2).slabsTell(1, part(down, 2, 3), part(down, last - 1, 3));
                    slab.goes(1, "cut", 0, down, last).slabsTell(1, part(down, last, 3), part(down, 1, 3));
                }
            }
        }
    }

    private static void placesOfCutRefused() {
        about("It cannot be CUT so, if one of them would be less than 1");
        for (int kerf = 0; kerf <= 2; kerf++) {
            for (int down = 0; down <= 1; down++) {
                int[] lengths = {1, 10, 24};
                for (int length : lengths) {
                    Scene slab = slabToCut(kerf, down, length, 24);
                    int[] wrong = {LEAST, LEAST + 1, -1, 0, length - kerf, length, length + 1, MOST - 2, MOST};
                    for (int place : wrong) {
                        if (place < 1 || place >= length - kerf) {
                            slab.keeps(ARGUMENT, "cut", 0, down, place);
                        }
                    }
                }
            }
        }
    }

    private static void narrowestCut() {
        about("the narrowest SLAB that can be CUT leaves 1 on both sides");
        for (int kerf = 0; kerf <= 2; kerf++) {
            for (int down = 0; down <= 1; down++) {
                slabToCut(kerf, down, kerf + 2, 1).goes(1, "cut", 0, down, 1)
                        .slabsTell(1, part(down, 1, 1), part(down, 1, 1));
                Scene narrow = slabToCut(kerf, down, kerf + 1, 24);
                for (int place = 0; place <= kerf + 2; place++) {
                    narrow.keeps(ARGUMENT, "cut", 0, down, place);
                }
            }
        }
    }

    private static void flawsBesideTheCut() {
        about("FLAWS with x (ACROSS: y) below k are on the first one, those from k + KERF on on the other one, "
                + "with x (or y) less (k + KERF); the others are gone");
        for (int kerf = 0; kerf <= 2; kerf++) {
            for (int at = 0; at < 8; at++) {
                for (int down = 0; down <= 1; down++) {
                    flawBesideTheCut(kerf, at, down, 3);
                    flawBesideTheCut(kerf, at, down, 1);
                    flawBesideTheCut(kerf, at, down, 7 - kerf);
                }
            }
        }
    }

    private static void flawBesideTheCut(int kerf, int at, int down, int k) {
        boolean isDown = down == DOWN;
        Scene cut = slabToCut(kerf, down, 8, 2)
                .with("flaw", 0, isDown ? at : 1, isDown ? 1 : at).with("cut", 0, down, k);
        boolean isOnFirst = at < k;
        boolean isOnOther = at >= k + kerf;
        int left = at - k - kerf;
        cut.answers(isOnFirst ? 1 : 0, "ofSlab", 1, 3);
        cut.answers(isOnOther ? 1 : 0, "ofSlab", 2, 3);
        if (isOnFirst) {
            cut.answers(1, "flawsAt", 1, isDown ? at : 1, isDown ? 1 : at);
        }
        if (isOnOther) {
            cut.answers(1, "flawsAt", 2, isDown ? left : 1, isDown ? 1 : left);
        }
        cut.answers(1, "flawsAt", 0, isDown ? at : 1, isDown ? 1 : at);
    }

    private static void allFlawsOnOnePart() {
        about("all 6 FLAWS can be on one part, none on it, or 6 be gone");
        for (int at = 4; at <= 6; at++) {
            Scene slab = NEW.with("slab", 10, 10, 0);
            for (int i = 0; i < 6; i++) {
                slab = slab.with("flaw", 0, at, at);
            }
            for (int down = 0; down <= 1; down++) {
                Scene cut = slab.with("cut", 0, down, 5);
                cut.answers(at == 4 ? 6 : 0, "ofSlab", 1, 3);
                cut.answers(at == 6 ? 6 : 0, "ofSlab", 2, 3);
                cut.answers(6, "ofSlab", 0, 3);
            }
        }
    }

    private static void grainsOfParts() {
        about("with the same GRAIN");
        for (int grain = 0; grain <= 1; grain++) {
            for (int down = 0; down <= 1; down++) {
                Scene cut = NEW.with("slab", 4, 4, grain).with("cut", 0, down, 1);
                cut.answers(grain, "ofSlab", 1, 2);
                cut.answers(grain, "ofSlab", 2, 2);
            }
        }
    }

    private static void cutKeepsAllAsItWasTold() {
        about("(The SLAB that was CUT keeps all as it was told.)");
        Scene slab = NEW.with("slab", 9, 7, 1).with("flaw", 0, 3, 3).with("flaw", 0, 4, 4).with("flaw", 0, 5, 5);
        for (int down = 0; down <= 1; down++) {
            Scene cut = slab.with("cut", 0, down, 4);
            int[] told = {9, 7, 1, 3, NONE, CUT};
            for (int what = 0; what <= 5; what++) {
                cut.answers(told[what], "ofSlab", 0, what);
            }
            for (int at = 3; at <= 5; at++) {
                cut.answers(1, "flawsAt", 0, at, at);
            }
        }
    }

    private static void cutNoSuchSlab() {
        about("cut(): throws IndexOutOfBoundsException if there is no such SLAB, ahead of the other exceptions");
        Scene two = slabs(gone(), 1);
        Scene all = slabs(40);
        for (int down = 0; down <= 1; down++) {
            for (int none : noneOf(6)) {
                two.keeps(INDEX, "cut", none, down, 1);
                two.keeps(INDEX, "cut", none, down, 0);
                two.keeps(INDEX, "cut", none, down, MOST);
            }
            for (int none : noneOf(40)) {
                all.keeps(INDEX, "cut", none, down, 1);
                all.keeps(INDEX, "cut", none, down, LEAST);
            }
        }
    }

    private static void cutNotThere() {
        about("cut(): throws IllegalStateException if it is not THERE, behind IllegalArgumentException");
        Scene gone = gone();
        for (int slab = 0; slab <= 2; slab++) {
            gone.keeps(STATE, "cut", slab, DOWN, 1);
            gone.keeps(STATE, "cut", slab, DOWN, 3);
            gone.keeps(STATE, "cut", slab, ACROSS, 2);
            gone.keeps(ARGUMENT, "cut", slab, DOWN, 0);
            gone.keeps(ARGUMENT, "cut", slab, DOWN, 4);
            gone.keeps(ARGUMENT, "cut", slab, ACROSS, 3);
        }
        gone.goes(5, "cut", 4, ACROSS, 2);
    }

    private static void cutWithThirtyEight() {
        about("cut(): with 38 it is CUT, and there are 40");
        for (int down = 0; down <= 1; down++) {
            Scene cut = slabs(37).with("slab", 24, 24, 0).goes(38, "cut", 37, down, 12);
            cut.answers(40, "many", 0);
            cut.answers(39, "many", 1);
            cut.answers(37, "ofSlab", 38, 4);
            cut.answers(37, "ofSlab", 39, 4);
            cut.answers(12, "ofSlab", 38, down == DOWN ? 0 : 1);
            cut.answers(11, "ofSlab", 39, down == DOWN ? 0 : 1);
            cut.keeps(STATE, "cut", 39, down, 5);
        }
    }

    private static void cutWithMoreThanThirtyEight() {
        about("cut(): throws IllegalStateException if there were more than 38, also if some are GONE");
        int[] counts = {39, 40};
        for (int count : counts) {
            Scene slabs = slabs(NEW.with("slab", 24, 24, 0), count - 1);
            for (int down = 0; down <= 1; down++) {
                slabs.keeps(STATE, "cut", 0, down, 12);
                slabs.with("toss", 5).with("toss", 6).keeps(STATE, "cut", 0, down, 12);
                slabs.keeps(ARGUMENT, "cut", 0, down, 0);
                slabs.keeps(ARGUMENT, "cut", 0, down, 23);
                slabs.with("toss", 0).keeps(STATE, "cut", 0, down, 12);
                slabs.with("toss", 0).keeps(ARGUMENT, "cut", 0, down, 23);
            }
        }
    }

    private static void areasTossed() {
        about("toss(): returns its AREA");
        int[][] sizes = {{1, 1}, {24, 24}, {24, 1}, {1, 24}, {7, 5}};
        for (int[] s : sizes) {
            Scene thrown = NEW.with("slab", s[0], s[1], 0).goes(s[0] * s[1], "toss", 0);
            thrown.slabsTell(0, new int[] {s[0], s[1], 0, 0, NONE, THROWN});
            thrown.answers(0, "many", 1);
            thrown.answers(0, "many", 7);
            thrown.answers(s[0] * s[1], "many", 5);
        }
    }

    private static void tossRefused() {
        about("toss(): throws IndexOutOfBoundsException if there is no such SLAB");
        Scene gone = gone();
        for (int none : noneOf(5)) {
            gone.keeps(INDEX, "toss", none);
        }
        about("toss(): throws IllegalStateException if it is not THERE");
        for (int slab = 0; slab <= 2; slab++) {
            gone.keeps(STATE, "toss", slab);
        }
        Scene last = gone.goes(8, "toss", 3).goes(8, "toss", 4);
        last.keeps(STATE, "toss", 4);
        last.answers(0, "many", 1);
        full().goes(576, "toss", 39).keeps(STATE, "toss", 39);
    }

    private static void ofSlabTellsAllFates() {
        about("5 0 if it is THERE, 1 CUT, 2 TAKEN, 3 THROWN; 4 the SLAB FROM which it comes (NONE)");
        gone().slabsTell(0,
                new int[] {5, 4, 0, 0, NONE, CUT},
                new int[] {5, 4, 0, 0, NONE, TAKEN},
                new int[] {5, 4, 0, 0, NONE, THROWN},
                new int[] {2, 4, 0, 0, 0, THERE},
                new int[] {2, 4, 0, 0, 0, THERE});
        full().answers(24, "ofSlab", 39, 0);
        full().answers(1, "ofSlab", 39, 2);
    }

    private static void ofSlabRefused() {
        about("ofSlab(): throws IllegalArgumentException if what is not 0 to 5");
        Scene gone = gone();
        for (int wrong : outside(0, 5)) {
            for (int slab = 0; slab <= 4; slab++) {
                gone.keeps(ARGUMENT, "ofSlab", slab, wrong);
            }
        }
        about("ofSlab(): throws IndexOutOfBoundsException if there is no such SLAB, ahead of the other exception");
        for (int none : noneOf(5)) {
            gone.keeps(INDEX, "ofSlab", none, 0);
            gone.keeps(INDEX, "ofSlab", none, 5);
            gone.keeps(INDEX, "ofSlab", none, -1);
            gone.keeps(INDEX, "ofSlab", none, 6);
        }
        for (int none : noneOf(40)) {
            full().keeps(INDEX, "ofSlab", none, 0);
        }
    }

    private static void flawsAtPoints() {
        about("Returns how many FLAWS are on that POINT");
        Scene slab = NEW.with("slab", 24, 24, 0).with("slab", 24, 24, 0);
        slab.keeps(0, "flawsAt", 0, 0, 0);
        slab.keeps(0, "flawsAt", 0, 23, 23);
        for (int many = 1; many <= 6; many++) {
            slab = slab.with("flaw", 0, 23, 0);
            slab.keeps(many, "flawsAt", 0, 23, 0);
            slab.answers(0, "flawsAt", 0, 0, 23);
            slab.answers(0, "flawsAt", 0, 22, 0);
            slab.answers(0, "flawsAt", 0, 23, 1);
            slab.answers(0, "flawsAt", 1, 23, 0);
        }
        Scene inTheMiddle = NEW.with("slab", 24, 24, 0).with("flaw", 0, 12, 9);
        for (int x = 10; x <= 14; x++) {
            for (int y = 7; y <= 11; y++) {
                inTheMiddle.answers(x == 12 && y == 9 ? 1 : 0, "flawsAt", 0, x, y);
            }
        }
        about("flawsAt(): a SLAB that is GONE answers too");
        slab.with("toss", 0).keeps(6, "flawsAt", 0, 23, 0);
        slab.with("cut", 0, DOWN, 23 - 1).keeps(6, "flawsAt", 0, 23, 0);
        gone().keeps(0, "flawsAt", 1, 4, 3);
    }

    private static void flawsAtRefused() {
        about("flawsAt(): throws IndexOutOfBoundsException if there is no such SLAB, or POINT");
        Scene gone = gone();
        for (int none : noneOf(5)) {
            gone.keeps(INDEX, "flawsAt", none, 0, 0);
            gone.keeps(INDEX, "flawsAt", none, -1, 0);
        }
        int[] wides = {5, 5, 5, 2, 2};
        for (int slab = 0; slab <= 4; slab++) {
            for (int wrong : outside(0, wides[slab] - 1)) {
                gone.keeps(INDEX, "flawsAt", slab, wrong, 0);
                gone.keeps(INDEX, "flawsAt", slab, wrong, 3);
            }
            for (int wrong : outside(0, 3)) {
                gone.keeps(INDEX, "flawsAt", slab, 0, wrong);
                gone.keeps(INDEX, "flawsAt", slab, wides[slab] - 1, wrong);
            }
            gone.keeps(0, "flawsAt", slab, wides[slab] - 1, 3);
        }
        Scene large = NEW.with("slab", 24, 24, 0);
        large.keeps(INDEX, "flawsAt", 0, 24, 0);
        large.keeps(INDEX, "flawsAt", 0, 0, 24);
    }

    private static void rootsOfParts() {
        about("root(): itself, if it comes from none");
        Scene parts = NEW.with("slab", 9, 9, 0).with("slab", 9, 9, 0).with("cut", 1, DOWN, 4)
                .with("cut", 3, ACROSS, 4).with("slab", 9, 9, 0);
        int[] roots = {0, 1, 1, 1, 1, 1, 6};
        for (int slab = 0; slab < roots.length; slab++) {
            parts.keeps(roots[slab], "root", slab);
        }
        parts.with("toss", 5).keeps(1, "root", 5);
        gone().keeps(2, "root", 2);
        gone().keeps(1, "root", 1);
        full().keeps(39, "root", 39);
    }

    private static void deepestRoot() {
        about("root(): the SLAB from which it comes in the end, through as many CUTS as there can be");
        Scene chain = NEW.with("kerf", 0).with("slab", 1, 1, 0).with("slab", 24, 24, 0);
        int last = 1;
        for (int cut = 0; cut < 19; cut++) {
            int first = 2 + 2 * cut;
            chain = chain.goes(first, "cut", last, DOWN, 1);
            last = first + 1;
        }
        chain.answers(40, "many", 0);
        for (int slab = 1; slab < 40; slab++) {
            chain.answers(1, "root", slab);
        }
        chain.answers(0, "root", 0);
        chain.keeps(1, "root", 39);
    }

    private static void rootRefused() {
        about("root(): throws IndexOutOfBoundsException if there is no such SLAB");
        for (int none : noneOf(5)) {
            gone().keeps(INDEX, "root", none);
        }
        for (int none : noneOf(40)) {
            full().keeps(INDEX, "root", none);
        }
    }
}
