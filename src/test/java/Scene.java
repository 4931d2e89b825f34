import java.math.BigInteger;
import java.util.ArrayList;
import java.util.Arrays;
import java.util.List;

/**
 * A run of calls, made again on a new object for each question asked behind it: so no question hangs
 * on another one, and no object is used for more calls than the document allows.
 */
final class Scene {
    private static final int MOST_CALLS = 512;
    // So many flawsAt() fit on one object behind the longest run.
    private static final int POINTS_AT_ONCE = 300;
    private static final int MOST_NAMED = 20;
    private static final int[][] PIECES = {{1, 1}, {3, 2}, {7, 5}, {12, 9}, {24, 24}};
    private static final int[] PRICES = {1, 50, 999};
    private static final Due due = new Due();
    private static String sentence = "";

    private record Call(String name, int... numbers) {
        @Override
        public String toString() {
            String all = Arrays.toString(numbers);
            return name + "(" + all.substring(1, all.length() - 1) + ")";
        }
    }

    /** An object on which calls are counted. */
    private static final class Played {
        private final StonecutterYard x = new StonecutterYard();
        private int calls = 0;

        Object ask(String name, int... numbers) {
            calls++;
            if (calls > MOST_CALLS) {
                throw new AssertionError("a test asks more than 512 calls of one object");
            }
            return Due.answerOf(() -> Face.ask(x, name, numbers));
        }

        int number(String name, int... numbers) {
            return ask(name, numbers) instanceof Integer number ? number : 0;
        }
    }

    private interface Part {
        void tell(Played yard, StringBuilder told);
    }

    private final List<Call> run;
    private List<String> look = null;

    Scene() {
        this(new ArrayList<>());
    }

    private Scene(List<Call> run) {
        this.run = run;
    }

    /** The sentence of the document that the questions from here on are about. */
    static void about(String newSentence) {
        sentence = newSentence;
    }

    static void end() {
        due.end();
    }

    /** For what no single call tells. */
    static boolean check(Object want, Object got, String name) {
        return due.is(want, sentence + ": " + name, () -> got);
    }

    /** The run, and this call behind it, whatever it answers. */
    Scene and(String name, int... numbers) {
        List<Call> longer = new ArrayList<>(run);
        longer.add(new Call(name, numbers));
        return new Scene(longer);
    }

    /** As and(), and the call must not throw. */
    Scene with(String name, int... numbers) {
        Object got = answer(name, numbers);
        if (got instanceof Class) {
            check("an answer", got, nameOf(name, numbers));
        }
        return and(name, numbers);
    }

    /** As and(), and the call must answer so. */
    Scene goes(Object want, String name, int... numbers) {
        answers(want, name, numbers);
        return and(name, numbers);
    }

    Object answer(String name, int... numbers) {
        return play().ask(name, numbers);
    }

    boolean answers(Object want, String name, int... numbers) {
        return check(want, answer(name, numbers), nameOf(name, numbers));
    }

    /** The call answers so (or throws that), and behind it all is as it was. */
    void keeps(Object want, String name, int... numbers) {
        if (!answers(want, name, numbers)) {
            // Behind a wrong answer there may be a SLAB that is too large to be looked at.
            return;
        }
        List<String> before = look();
        List<String> behind = and(name, numbers).look();
        check(before.size(), behind.size(), "parts behind " + nameOf(name, numbers));
        for (int i = 0; i < before.size() && i < behind.size(); i++) {
            check(before.get(i), behind.get(i), "all that is told behind " + nameOf(name, numbers));
        }
    }

    /** Each of these SLABS tells its WIDE, HIGH, GRAIN, FLAWS, FROM and state, from that number on. */
    void slabsTell(int first, int[]... want) {
        for (int i = 0; i < want.length; i++) {
            for (int what = 0; what <= 5; what++) {
                answers(want[i][what], "ofSlab", first + i, what);
            }
        }
        answers(first + want.length, "many", 0);
    }

    void kindTells(int kind, int... want) {
        for (int what = 0; what < want.length; what++) {
            answers(want[what], "ofKind", kind, what);
        }
    }

    /** digest() as the document tells it, computed without a wrap until the end. */
    void digests() {
        BigInteger d = BigInteger.valueOf(58105);
        for (int v : digested()) {
            d = d.multiply(BigInteger.valueOf(31)).add(BigInteger.valueOf(v));
        }
        keeps(d.longValue(), "digest");
    }

    private List<Integer> digested() {
        List<Integer> all = new ArrayList<>();
        for (int what = 0; what <= 7; what++) {
            all.add(play().number("many", what));
        }
        int slabs = all.get(0);
        int kinds = all.get(2);
        for (int slab = 0; slab < slabs; slab++) {
            for (int what = 0; what <= 5; what++) {
                all.add(play().number("ofSlab", slab, what));
            }
            for (int kind = 0; kind < kinds; kind++) {
                all.add(play().number("fits", slab, kind));
            }
        }
        for (int kind = 0; kind < kinds; kind++) {
            for (int what = 0; what <= 7; what++) {
                all.add(play().number("ofKind", kind, what));
            }
        }
        all.add(play().number("worth", 12, 9, 0));
        all.add(play().number("bestCut", 12, 9, 0));
        all.add(play().number("planPays", 3));
        return all;
    }

    private String nameOf(String name, int... numbers) {
        int hidden = Math.max(0, run.size() - MOST_NAMED);
        String gap = hidden == 0 ? "" : ".. " + hidden + " calls, then ";
        return new Call(name, numbers) + " behind " + gap + run.subList(hidden, run.size());
    }

    private Played play() {
        Played yard = new Played();
        for (Call call : run) {
            yard.ask(call.name, call.numbers);
        }
        return yard;
    }

    /** All that the face tells of the yard behind the run, and what it does when it goes on. */
    private List<String> look() {
        if (look == null) {
            look = new ArrayList<>();
            int slabs = play().number("many", 0);
            int kinds = play().number("many", 2);
            part((yard, told) -> tellAll(yard, told));
            part((yard, told) -> tellSlabs(yard, told, slabs));
            for (int slab = 0; slab < slabs; slab++) {
                lookAtFlaws(slab);
            }
            for (int kind = 0; kind < kinds; kind++) {
                int k = kind;
                part((yard, told) -> tellKind(yard, told, k));
                part((yard, told) -> tellPairs(yard, told, slabs, k));
            }
            part((yard, told) -> tellPieces(yard, told));
            part((yard, told) -> goOnWithKinds(yard, told, slabs, kinds));
            part((yard, told) -> goOnWithSlabs(yard, told, slabs));
        }
        return look;
    }

    private void part(Part part) {
        StringBuilder told = new StringBuilder();
        part.tell(play(), told);
        look.add(told.toString());
    }

    private static void tell(Played yard, StringBuilder told, String name, int... numbers) {
        told.append(new Call(name, numbers)).append(' ').append(yard.ask(name, numbers)).append('\n');
    }

    private static void tellAll(Played yard, StringBuilder told) {
        for (int what = 0; what <= 7; what++) {
            tell(yard, told, "many", what);
        }
        tell(yard, told, "meanArea");
        tell(yard, told, "digest");
        for (int most = 1; most <= 20; most++) {
            tell(yard, told, "planPays", most);
        }
    }

    private static void tellSlabs(Played yard, StringBuilder told, int slabs) {
        for (int slab = 0; slab < slabs; slab++) {
            tell(yard, told, "root", slab);
            for (int what = 0; what <= 5; what++) {
                tell(yard, told, "ofSlab", slab, what);
            }
        }
    }

    private void lookAtFlaws(int slab) {
        int wide = play().number("ofSlab", slab, 0);
        int high = play().number("ofSlab", slab, 1);
        for (int first = 0; first < wide * high; first += POINTS_AT_ONCE) {
            int from = first;
            int to = Math.min(wide * high, first + POINTS_AT_ONCE);
            part((yard, told) -> {
                for (int point = from; point < to; point++) {
                    tell(yard, told, "flawsAt", slab, point % wide, point / wide);
                }
            });
        }
    }

    private static void tellKind(Played yard, StringBuilder told, int kind) {
        for (int what = 0; what <= 7; what++) {
            tell(yard, told, "ofKind", kind, what);
        }
        for (int price : PRICES) {
            tell(yard, told, "worthMore", kind, price);
        }
        for (int[] piece : PIECES) {
            tell(yard, told, "column", piece[0], piece[1], 0, kind);
            tell(yard, told, "column", piece[0], piece[1], 1, kind);
        }
    }

    private static void tellPairs(Played yard, StringBuilder told, int slabs, int kind) {
        for (int slab = 0; slab < slabs; slab++) {
            tell(yard, told, "fits", slab, kind);
            tell(yard, told, "wasteBy", slab, kind);
        }
        for (int slab = 0; slab < slabs; slab++) {
            tell(yard, told, "take", slab, kind);
        }
        tell(yard, told, "digest");
    }

    private static void tellPieces(Played yard, StringBuilder told) {
        for (int[] piece : PIECES) {
            for (int grain = 0; grain <= 1; grain++) {
                tell(yard, told, "worth", piece[0], piece[1], grain);
                tell(yard, told, "bestCut", piece[0], piece[1], grain);
            }
        }
    }

    private static void goOnWithKinds(Played yard, StringBuilder told, int slabs, int kinds) {
        tell(yard, told, "kind", 1, 1, 1);
        for (int kind = 0; kind < kinds; kind++) {
            tell(yard, told, "let", kind, 0, 0);
            tell(yard, told, "order", kind, 1);
        }
        for (int slab = 0; slab < slabs; slab++) {
            tell(yard, told, "flaw", slab, 0, 0);
        }
        tell(yard, told, "plan", 20);
        tell(yard, told, "digest");
        tell(yard, told, "kerf", 1);
        tell(yard, told, "slab", 1, 1, 0);
    }

    private static void goOnWithSlabs(Played yard, StringBuilder told, int slabs) {
        for (int slab = 0; slab < slabs; slab++) {
            tell(yard, told, "cut", slab, 1, 1);
            tell(yard, told, "cut", slab, 0, 1);
        }
        tell(yard, told, "digest");
        for (int slab = 0; slab < slabs; slab++) {
            tell(yard, told, "toss", slab);
        }
        tell(yard, told, "digest");
    }
}
