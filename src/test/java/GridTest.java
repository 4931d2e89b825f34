import java.util.ArrayList;
import java.util.Arrays;
import java.util.List;

/**
 * Every call with all combinations of boundary values, behind some runs of calls, compared with PlainYard:
 * which exception is thrown, if several apply, is so looked at for every pair of wrong numbers.
 */
public final class GridTest {
    private static final int LEAST = Integer.MIN_VALUE;
    private static final int MOST = Integer.MAX_VALUE;
    private static final int[] SLABS = {LEAST, -1, 0, 1, 2, 3, 4, 5, 6, 35, 36, 37, 38, 39, 40, MOST};
    private static final int[] KINDS = {LEAST, -1, 0, 1, 2, 5, 6, MOST};
    private static final int[] SIDES = {LEAST, -1, 0, 1, 2, 24, 25, MOST};
    private static final int[] POINTS = {LEAST, -1, 0, 1, 3, 4, 5, 23, 24, MOST};
    private static final int[] PLACES = {LEAST, -1, 0, 1, 2, 3, 4, 22, 23, 24, MOST};
    private static final int[] GRAINS = {LEAST, -1, 0, 1, 2, MOST};
    private static final int[] SMALL = {LEAST, -1, 0, 1, 2, 3, 4, 5, 6, 7, 8, MOST};
    private static final int[] PRICES = {LEAST, -1, 0, 1, 500, 999, 1000, MOST};
    private static final int[] MANY = {LEAST, -1, 0, 1, 2, 19, 20, 21, MOST};
    private static final int[] BOTH = {0, 1};
    private static final Due due = new Due();

    private record Call(String name, int... numbers) {
    }

    private final List<Call> run = new ArrayList<>();
    private String scene = "";

    public static void main(String[] args) {
        new GridTest().askAll("a new yard");
        someSlabs().askAll("some slabs and kinds");
        for (int kerf = 0; kerf <= 2; kerf += 2) {
            GridTest other = someSlabs();
            other.with("kerf", kerf);
            other.askAll("some slabs and kinds, and the kerf " + kerf);
        }
        for (int count = 36; count <= 40; count++) {
            manySlabs(count).askAll(count + " slabs");
        }
        due.end();
    }

    private static GridTest someSlabs() {
        GridTest grid = new GridTest();
        grid.with("slab", 5, 4, 0).with("slab", 5, 4, 1).with("slab", 5, 4, 0).with("slab", 24, 3, 1);
        grid.with("flaw", 3, 23, 2).with("flaw", 3, 0, 0).with("flaw", 3, 2, 1);
        grid.with("kind", 5, 4, 40).with("kind", 3, 2, 999).with("let", 1, 1, 1).with("order", 1, 1);
        grid.with("cut", 0, 1, 2).with("take", 1, 0).with("toss", 2);
        return grid;
    }

    private static GridTest manySlabs(int count) {
        GridTest grid = new GridTest();
        for (int i = 0; i < count; i++) {
            grid.with("slab", i % 3 == 0 ? 24 : 4, 4, i % 2);
        }
        for (int i = 0; i < 6; i++) {
            grid.with("flaw", 1, 3, 3);
            grid.with("kind", 4, i + 1, 200 - i).with("let", i, i % 3, i % 4).with("order", i, 20 - i);
        }
        return grid.with("toss", 2);
    }

    private GridTest with(String name, int... numbers) {
        run.add(new Call(name, numbers));
        return this;
    }

    private void askAll(String newScene) {
        scene = newScene;
        change("slab", SIDES, SIDES, GRAINS);
        change("flaw", SLABS, POINTS, POINTS);
        change("kerf", SMALL);
        change("cut", SLABS, BOTH, PLACES);
        change("toss", SLABS);
        change("kind", SIDES, SIDES, PRICES);
        change("let", KINDS, SMALL, SMALL);
        change("order", KINDS, MANY);
        change("take", SLABS, KINDS);
        change("plan", MANY);
        ask("ofSlab", SLABS, SMALL);
        ask("flawsAt", SLABS, POINTS, POINTS);
        ask("root", SLABS);
        ask("ofKind", KINDS, SMALL);
        ask("fits", SLABS, KINDS);
        ask("many", SMALL);
        ask("meanArea");
        ask("worth", SIDES, SIDES, GRAINS);
        ask("bestCut", SIDES, SIDES, GRAINS);
        ask("column", SIDES, SIDES, GRAINS, KINDS);
        ask("worthMore", KINDS, PRICES);
        ask("wasteBy", SLABS, KINDS);
        ask("planPays", MANY);
        ask("digest");
    }

    private StonecutterYard yard() {
        StonecutterYard yard = new StonecutterYard();
        for (Call call : run) {
            Face.ask(yard, call.name, call.numbers);
        }
        return yard;
    }

    private PlainYard plainYard() {
        PlainYard yard = new PlainYard();
        for (Call call : run) {
            Face.ask(yard, call.name, call.numbers);
        }
        return yard;
    }

    private static List<int[]> combinations(int[]... of) {
        List<int[]> all = new ArrayList<>();
        all.add(new int[0]);
        for (int[] values : of) {
            List<int[]> longer = new ArrayList<>();
            for (int[] one : all) {
                for (int value : values) {
                    int[] more = Arrays.copyOf(one, one.length + 1);
                    more[one.length] = value;
                    longer.add(more);
                }
            }
            all = longer;
        }
        return all;
    }

    private void change(String name, int[]... of) {
        for (int[] numbers : combinations(of)) {
            StonecutterYard yard = yard();
            PlainYard plain = plainYard();
            compare(yard, plain, name, numbers);
            for (int what = 0; what <= 7; what++) {
                compare(yard, plain, "many", what);
            }
        }
    }

    private void ask(String name, int[]... of) {
        PlainYard plain = plainYard();
        for (int[] numbers : combinations(of)) {
            compare(yard(), plain, name, numbers);
        }
    }

    private void compare(StonecutterYard yard, PlainYard plain, String name, int... numbers) {
        Object want = Due.answerOf(() -> Face.ask(plain, name, numbers));
        due.is(want, name + Arrays.toString(numbers) + " behind " + scene, () -> Face.ask(yard, name, numbers));
    }
}
