import java.util.Random;

/** Long runs of calls, each answer compared with that of PlainYard; the seeds are fixed. */
public final class RandomTest {
    private static final int RUNS = 300;
    // One call is left for the digest() at the end, as an object is used for at most 512.
    private static final int CALLS = 511;
    private static final int[] ODD = {-1, 0, 1, 2, 5, 6, 24, 25, 40, 999, 1000, Integer.MAX_VALUE, Integer.MIN_VALUE};

    private final Due due;
    private final Random random;
    private final String run;
    private final int longestSide;
    private final int longestStone;
    private final boolean isWild;
    private final StonecutterYard x = new StonecutterYard();
    private final PlainYard plain = new PlainYard();

    private RandomTest(Due due, int seed) {
        this.due = due;
        random = new Random(seed);
        run = "run " + seed + ": ";
        longestSide = seed % 3 == 0 ? 24 : 12;
        longestStone = seed % 2 == 0 ? 4 : 10;
        isWild = seed % 4 == 3;
    }

    public static void main(String[] args) {
        Due due = new Due();
        for (int seed = 0; seed < RUNS && due.isAllRight(); seed++) {
            new RandomTest(due, seed).runAll();
        }
        due.end();
    }

    private void runAll() {
        for (int i = 0; i < CALLS && due.isAllRight(); i++) {
            oneCall(i);
        }
        due.is(plain.digest(), run + "digest() at the end", () -> x.digest());
    }

    private int some(int low, int high) {
        if (random.nextInt(isWild ? 6 : 40) == 0) {
            return ODD[random.nextInt(ODD.length)];
        }
        return low + random.nextInt(high - low + 1);
    }

    private int someSlab() {
        int count = plain.many(0);
        // The last ones are there more often than the first ones.
        return count > 6 && random.nextBoolean() ? some(count - 6, count - 1) : some(0, Math.max(0, count - 1));
    }

    private int someKind() {
        return some(0, Math.max(0, plain.many(2) - 1));
    }

    private void both(String name, Due.Call mine, Due.Call plainly) {
        due.is(Due.answerOf(plainly), run + name, mine);
    }

    private void oneCall(int i) {
        int roll = random.nextInt(i < 30 ? 12 : 28);
        if (roll < 10) {
            change(i, roll);
        } else if (roll < 20) {
            ask(roll);
        } else {
            askWhatWouldBe(roll);
        }
    }

    private void change(int i, int roll) {
        int s = someSlab();
        int k = someKind();
        int a = some(0, longestSide - 1);
        int b = some(0, longestSide - 1);
        switch (roll) {
            case 0:
                if (i < 30 || random.nextInt(6) == 0) {
                    int wide = some(1, longestSide);
                    int high = some(1, longestSide);
                    int grain = some(0, 1);
                    both("slab " + i, () -> x.slab(wide, high, grain), () -> plain.slab(wide, high, grain));
                }
                break;
            case 1:
            case 2:
                both("flaw " + i, () -> x.flaw(s, a, b), () -> plain.flaw(s, a, b));
                break;
            case 3:
                int kerf = some(0, 2);
                both("kerf " + i, () -> x.kerf(kerf), () -> plain.kerf(kerf));
                break;
            case 4:
                boolean isDown = random.nextBoolean();
                if (random.nextInt(3) == 0) {
                    both("cut " + i, () -> x.cut(s, isDown, a), () -> plain.cut(s, isDown, a));
                }
                break;
            case 5:
                if (random.nextInt(8) == 0) {
                    both("toss " + i, () -> x.toss(s), () -> plain.toss(s));
                }
                break;
            case 6:
                int length = some(1, longestStone);
                int breadth = some(1, longestStone);
                int price = random.nextInt(4) == 0 ? some(1, 999) : some(1, 60);
                both("kind " + i, () -> x.kind(length, breadth, price), () -> plain.kind(length, breadth, price));
                break;
            case 7:
                int way = some(0, 2);
                int flaws = some(0, 3);
                both("let " + i, () -> x.let(k, way, flaws), () -> plain.let(k, way, flaws));
                break;
            case 8:
                int many = some(1, 6);
                both("order " + i, () -> x.order(k, many), () -> plain.order(k, many));
                break;
            default:
                sell(i, s, k);
                break;
        }
    }

    private void sell(int i, int s, int k) {
        if (random.nextBoolean()) {
            both("take " + i, () -> x.take(s, k), () -> plain.take(s, k));
        } else if (random.nextInt(3) == 0) {
            int most = random.nextBoolean() ? some(1, 3) : some(1, 20);
            both("plan " + i, () -> x.plan(most), () -> plain.plan(most));
        }
    }

    private void ask(int roll) {
        int s = someSlab();
        int k = someKind();
        int what = some(0, 7);
        int a = some(0, 5);
        int b = some(0, 5);
        switch (roll) {
            case 10:
            case 11:
                both("ofSlab", () -> x.ofSlab(s, what), () -> plain.ofSlab(s, what));
                break;
            case 12:
                both("flawsAt", () -> x.flawsAt(s, a, b), () -> plain.flawsAt(s, a, b));
                break;
            case 13:
                both("root", () -> x.root(s), () -> plain.root(s));
                break;
            case 14:
            case 15:
                both("ofKind", () -> x.ofKind(k, what), () -> plain.ofKind(k, what));
                break;
            case 16:
                both("fits", () -> x.fits(s, k), () -> plain.fits(s, k));
                break;
            case 17:
            case 18:
                both("many", () -> x.many(what), () -> plain.many(what));
                break;
            default:
                both("meanArea", () -> x.meanArea(), () -> plain.meanArea());
                break;
        }
    }

    private void askWhatWouldBe(int roll) {
        int s = someSlab();
        int k = someKind();
        int wide = some(1, longestSide);
        int high = some(1, longestSide);
        int grain = some(0, 1);
        switch (roll) {
            case 20:
                both("worth", () -> x.worth(wide, high, grain), () -> plain.worth(wide, high, grain));
                break;
            case 21:
            case 22:
                both("bestCut", () -> x.bestCut(wide, high, grain), () -> plain.bestCut(wide, high, grain));
                break;
            case 23:
                both("column", () -> x.column(wide, high, grain, k), () -> plain.column(wide, high, grain, k));
                break;
            case 24:
                int price = some(1, 999);
                both("worthMore", () -> x.worthMore(k, price), () -> plain.worthMore(k, price));
                break;
            case 25:
                both("wasteBy", () -> x.wasteBy(s, k), () -> plain.wasteBy(s, k));
                break;
            case 26:
                int most = some(1, 20);
                both("planPays", () -> x.planPays(most), () -> plain.planPays(most));
                break;
            default:
                both("digest", () -> x.digest(), () -> plain.digest());
                break;
        }
    }
}
