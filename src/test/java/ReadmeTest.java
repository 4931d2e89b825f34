/** The answers that the example in README.md tells. */
public final class ReadmeTest {
    public static void main(String[] args) {
        Due due = new Due();
        StonecutterYard yard = new StonecutterYard();
        int slab = yard.slab(20, 12, 0);
        int kind = yard.kind(6, 3, 80);
        yard.flaw(slab, 2, 1);
        yard.order(kind, 4);
        due.is(-1, "fits, no flaw is let", () -> yard.fits(slab, kind));
        yard.let(kind, 0, 1);
        due.is(0, "fits, one flaw is let", () -> yard.fits(slab, kind));
        due.is(720, "worth", () -> yard.worth(20, 12, 0));
        due.is(6, "bestCut", () -> yard.bestCut(20, 12, 0));
        due.is(273, "planPays", () -> yard.planPays(20));
        due.is(4, "plan", () -> yard.plan(20));
        due.is(273, "many(4)", () -> yard.many(4));
        due.is(48, "many(5)", () -> yard.many(5));
        due.is(Due.ARGUMENT, "slab, too wide", () -> yard.slab(25, 12, 0));
        due.end();
    }
}
