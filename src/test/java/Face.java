/** The calls of the face by name, of the program and of PlainYard; cut() has 1 for DOWN and 0 for ACROSS. */
final class Face {
    private Face() {
    }

    static Object ask(StonecutterYard x, String name, int... n) {
        switch (name) {
            case "slab":
                return x.slab(n[0], n[1], n[2]);
            case "flaw":
                return x.flaw(n[0], n[1], n[2]);
            case "kerf":
                return x.kerf(n[0]);
            case "cut":
                return x.cut(n[0], n[1] == 1, n[2]);
            case "toss":
                return x.toss(n[0]);
            case "ofSlab":
                return x.ofSlab(n[0], n[1]);
            case "flawsAt":
                return x.flawsAt(n[0], n[1], n[2]);
            case "root":
                return x.root(n[0]);
            case "kind":
                return x.kind(n[0], n[1], n[2]);
            case "let":
                return x.let(n[0], n[1], n[2]);
            case "order":
                return x.order(n[0], n[1]);
            case "ofKind":
                return x.ofKind(n[0], n[1]);
            case "fits":
                return x.fits(n[0], n[1]);
            case "take":
                return x.take(n[0], n[1]);
            case "plan":
                return x.plan(n[0]);
            case "many":
                return x.many(n[0]);
            case "meanArea":
                return x.meanArea();
            case "worth":
                return x.worth(n[0], n[1], n[2]);
            case "bestCut":
                return x.bestCut(n[0], n[1], n[2]);
            case "column":
                return x.column(n[0], n[1], n[2], n[3]);
            case "worthMore":
                return x.worthMore(n[0], n[1]);
            case "wasteBy":
                return x.wasteBy(n[0], n[1]);
            case "planPays":
                return x.planPays(n[0]);
            case "digest":
                return x.digest();
            default:
                throw new AssertionError("there is no call " + name);
        }
    }

    static Object ask(PlainYard x, String name, int... n) {
        switch (name) {
            case "slab":
                return x.slab(n[0], n[1], n[2]);
            case "flaw":
                return x.flaw(n[0], n[1], n[2]);
            case "kerf":
                return x.kerf(n[0]);
            case "cut":
                return x.cut(n[0], n[1] == 1, n[2]);
            case "toss":
                return x.toss(n[0]);
            case "ofSlab":
                return x.ofSlab(n[0], n[1]);
            case "flawsAt":
                return x.flawsAt(n[0], n[1], n[2]);
            case "root":
                return x.root(n[0]);
            case "kind":
                return x.kind(n[0], n[1], n[2]);
            case "let":
                return x.let(n[0], n[1], n[2]);
            case "order":
                return x.order(n[0], n[1]);
            case "ofKind":
                return x.ofKind(n[0], n[1]);
            case "fits":
                return x.fits(n[0], n[1]);
            case "take":
                return x.take(n[0], n[1]);
            case "plan":
                return x.plan(n[0]);
            case "many":
                return x.many(n[0]);
            case "meanArea":
                return x.meanArea();
            case "worth":
                return x.worth(n[0], n[1], n[2]);
            case "bestCut":
                return x.bestCut(n[0], n[1], n[2]);
            case "column":
                return x.column(n[0], n[1], n[2], n[3]);
            case "worthMore":
                return x.worthMore(n[0], n[1]);
            case "wasteBy":
                return x.wasteBy(n[0], n[1]);
            case "planPays":
                return x.planPays(n[0]);
            case "digest":
                return x.digest();
            default:
                throw new AssertionError("there is no call " + name);
        }
    }
}
