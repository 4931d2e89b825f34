/** What the tests of boundary cases share. */
abstract class Edges {
    static final Class<IndexOutOfBoundsException> INDEX = Due.INDEX;
    static final Class<IllegalArgumentException> ARGUMENT = Due.ARGUMENT;
    static final Class<IllegalStateException> STATE = Due.STATE;
    static final int NONE = -1;
    static final int DOWN = 1;
    static final int ACROSS = 0;
    static final int THERE = 0;
    static final int CUT = 1;
    static final int TAKEN = 2;
    static final int THROWN = 3;
    static final int LEAST = Integer.MIN_VALUE;
    static final int MOST = Integer.MAX_VALUE;
    static final Scene NEW = new Scene();

    static void about(String sentence) {
        Scene.about(sentence);
    }

    /** The first numbers on both sides that are not low to high, and the ones farthest from them. */
    static int[] outside(int low, int high) {
        return new int[] {LEAST, low - 1, high + 1, MOST};
    }

    /** Numbers of which there is none while there are so many. */
    static int[] noneOf(int count) {
        return new int[] {LEAST, -1, count, count + 1, 50, MOST};
    }

    /** The run, and so many SLABS of 2 and 2. */
    static Scene slabs(Scene scene, int count) {
        Scene longer = scene;
        for (int i = 0; i < count; i++) {
            longer = longer.and("slab", 2, 2, 0);
        }
        return longer;
    }

    static Scene slabs(int count) {
        return slabs(NEW, count);
    }

    /** SLAB 0 is CUT to 3 and 4, 1 TAKEN, 2 THROWN away; the KIND 0 would FIT each of them. */
    static Scene gone() {
        return NEW.with("kind", 5, 4, 20)
                .with("slab", 5, 4, 0).with("slab", 5, 4, 0).with("slab", 5, 4, 0)
                .with("cut", 0, DOWN, 2).with("take", 1, 0).with("toss", 2);
    }

    /** All that there can be: 40 SLABS and 6 KINDS of 24 and 24, 20 WANTED of each. */
    static Scene full() {
        Scene scene = NEW;
        for (int i = 0; i < 40; i++) {
            scene = scene.and("slab", 24, 24, i % 2);
        }
        for (int i = 0; i < 6; i++) {
            scene = scene.and("kind", 24, 24, 999).and("let", i, 0, 3).and("order", i, 20);
        }
        return scene;
    }
}
