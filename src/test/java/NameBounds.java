/** Boundary cases of LABELS, MARKS, FITS, MIXED, TWO CHURCHES: promises 23 to 27. */
public final class NameBounds {
    private static final int NONE = Cases.NONE, UNKNOWN = Cases.UNKNOWN, OUTSIDE = Cases.OUTSIDE;
    private static final int MIN = Cases.MIN, MAX = Cases.MAX;

    public static void main(String[] args) {
        Cases.runAll(NameBounds.class, 23, 27);
    }

    private static void due(String call, long got, long want) {
        Cases.due(call, got, want);
    }

    private static LoftGraves coffins(int count) {
        return Cases.told("yard 0;" + "dead 5 5 5;".repeat(count));
    }

    private static void mixedIs(LoftGraves x, int others, int... names) {
        due("mixed(NONE)", x.mixed(NONE), others);
        for (int c = 0; c < names.length; c++) due("mixed(" + c + ")", x.mixed(c), names[c]);
    }

    // ---- LABELS, MARKS

    @Says("3 LAYING: bears a name: its own at first")
    static void ownNameAtFirst() {
        LoftGraves x = coffins(7);
        for (int c = 0; c < 7; c++) due("dead(" + c + ", 7)", x.dead(c, 7), c);
    }

    @Says("3 LAYING: names that it can be (all at first)")
    static void allMarksAtFirst() {
        for (int count = 1; count <= 7; count++) due("of " + count, coffins(count).dead(count - 1, 8), (1 << count) - 1);
    }

    @Says("Promise 23: The LABEL of a coffin becomes a name: what it was. UNKNOWN.")
    static void labelUnknown() {
        LoftGraves x = coffins(2);
        for (int c : new int[] {MIN, -1, 2, MAX}) due("label(" + c + ", 0)", x.label(c, 0), UNKNOWN);
        for (int name : new int[] {MIN, -1, 2, MAX}) due("label(0, " + name + ")", x.label(0, name), UNKNOWN);
        Cases.refused(x, UNKNOWN, "label(1, -1)", () -> x.label(1, -1));
        Cases.refused(x, UNKNOWN, "label(-1, 1)", () -> x.label(-1, 1));
        LoftGraves y = coffins(7);
        due("label(6, 0)", y.label(6, 0), 6);
        due("label(0, 6)", y.label(0, 6), 0);
        due("label(7, 6)", y.label(7, 6), UNKNOWN);
        due("label(6, 7)", y.label(6, 7), UNKNOWN);
    }

    @Says("Promise 23: The LABEL of a coffin becomes a name: what it was.")
    static void labelTwice() {
        LoftGraves x = coffins(2);
        due("its own again", x.label(0, 0), 0);
        due("the other's", x.label(0, 1), 0);
        due("the same again", x.label(0, 1), 1);
        due("two bear it", x.dead(0, 7) * 10 + x.dead(1, 7), 11);
        x.lay(0, 0);
        x.knock(1);
        due("of a laid one", x.label(0, 0), 1);
        due("of one that KNOCKED", x.label(1, 0), 1);
    }

    @Says("Promise 24: MARKS of a coffin become a SET: what they were. UNKNOWN.")
    static void markUnknown() {
        LoftGraves x = coffins(2);
        for (int c : new int[] {MIN, -1, 2, MAX}) due("mark(" + c + ", 1)", x.mark(c, 1), UNKNOWN);
        for (int set : new int[] {MIN, -1, 4, 5, 7, 8, 128, 1 << 30, MAX, MIN + 1}) due("mark(0, " + set + ")", x.mark(0, set), UNKNOWN);
        Cases.refused(x, UNKNOWN, "mark(0, 4)", () -> x.mark(0, 4));
        Cases.refused(x, UNKNOWN, "mark(0, -1)", () -> x.mark(0, -1));
        LoftGraves y = coffins(7);
        due("mark(6, 128)", y.mark(6, 128), UNKNOWN);
        due("mark(6, 127)", y.mark(6, 127), 127);
        due("mark(6, 64)", y.mark(6, 64), 127);
        due("mark(7, 0)", y.mark(7, 0), UNKNOWN);
    }

    @Says("Promise 24: MARKS of a coffin become a SET: what they were.")
    static void markNoneAndAll() {
        LoftGraves x = coffins(2);
        due("none", x.mark(0, 0), 3);
        due("all", x.mark(0, 3), 0);
        due("the same again", x.mark(0, 3), 3);
        due("the other's", x.dead(1, 8), 3);
        x.lay(0, 0);
        x.knock(1);
        due("of a laid one", x.mark(0, 1), 3);
        due("of one that KNOCKED", x.mark(1, 2), 3);
    }

    // ---- FITS

    @Says("Promise 25: FITS (1 without DEAD).")
    static void fitsWithoutDead() {
        due("a new object", new LoftGraves().fits(), 1);
        due("a parish of YARDS alone", Cases.told("yard 0;").fits(), 1);
        LoftGraves x = coffins(7);
        x.mark(0, 0);
        Cases.parish(x, "");
        due("behind a parish with DEAD", x.fits(), 1);
    }

    @Says("3 LAYING: FITS: ways to give each coffin a name, all unlike, by MARKS: how many.")
    static void fewestAndMostFits() {
        int[] want = {1, 2, 6, 24, 120, 720, 5040};
        for (int count = 1; count <= 7; count++) due("of " + count, coffins(count).fits(), want[count - 1]);
        LoftGraves x = coffins(7);
        for (int c = 0; c < 7; c++) x.mark(c, 1 << 6 - c);
        due("just one", x.fits(), 1);
        x.mark(6, 0);
        due("a coffin without MARKS", x.fits(), 0);
    }

    @Says("3 LAYING: all unlike")
    static void namesAllUnlike() {
        LoftGraves x = coffins(2);
        x.mark(0, 1);
        due("one is sure", x.fits(), 1);
        x.mark(1, 1);
        due("two of one name", x.fits(), 0);
        LoftGraves y = coffins(7);
        for (int c = 0; c < 7; c++) y.mark(c, 63);
        due("seven of six names", y.fits(), 0);
        y.mark(6, 64);
        due("six of six names", y.fits(), 720);
    }

    @Says("3 LAYING: each coffin (by the number of its DEAD) bears a name")
    static void alsoWhoLeftTheLoft() {
        LoftGraves x = coffins(3);
        x.lay(0, 0);
        x.knock(1);
        due("fits()", x.fits(), 6);
        x.label(0, 1);
        x.label(1, 0);
        mixedIs(x, 0, 1, 0, 2);
    }

    // ---- MIXED

    @Says("3 LAYING: MIXED: the way with the fewest names other than LABELS")
    static void noOthersAndAllOthers() {
        LoftGraves x = coffins(7);
        mixedIs(x, 0, 0, 1, 2, 3, 4, 5, 6);
        for (int c = 0; c < 7; c++) x.label(c, (c + 1) % 7);
        mixedIs(x, 0, 1, 2, 3, 4, 5, 6, 0);
        for (int c = 0; c < 7; c++) x.mark(c, 127 & ~(1 << (c + 1) % 7));
        due("all others", x.mixed(NONE), 7);
        for (int c = 0; c < 7; c++) x.mark(c, 1 << c);
        mixedIs(x, 7, 0, 1, 2, 3, 4, 5, 6);
    }

    @Says("3 LAYING: of like ones the first (coffin by coffin the lesser name)")
    static void theFirstOfLikeWays() {
        LoftGraves x = coffins(7);
        for (int c = 0; c < 7; c++) x.label(c, 6);
        mixedIs(x, 6, 0, 1, 2, 3, 4, 5, 6);
        for (int c = 0; c < 7; c++) x.label(c, 0);
        mixedIs(x, 6, 0, 1, 2, 3, 4, 5, 6);
        LoftGraves y = coffins(3);
        y.label(0, 2);
        mixedIs(y, 1, 0, 1, 2);
        y.mark(2, 1);
        mixedIs(y, 1, 2, 1, 0);
        LoftGraves z = coffins(3);
        for (int c = 0; c < 3; c++) z.mark(c, 7 & ~(1 << c));
        mixedIs(z, 3, 1, 2, 0);
    }

    @Says("3 LAYING: how many others, the name of each; NONE.")
    static void noWay() {
        LoftGraves x = coffins(2);
        x.mark(1, 0);
        mixedIs(x, NONE, NONE, NONE);
        x.mark(1, 1);
        mixedIs(x, 2, 1, 0);
        x.mark(0, 1);
        mixedIs(x, NONE, NONE, NONE);
        LoftGraves y = coffins(7);
        for (int c = 0; c < 7; c++) y.mark(c, 63);
        mixedIs(y, NONE, NONE, NONE, NONE, NONE, NONE, NONE, NONE);
    }

    @Says("Promise 26: MIXED: c = NONE how many others, else the name of a coffin; NONE. UNKNOWN.")
    static void mixedUnknown() {
        LoftGraves x = coffins(2);
        for (int c : new int[] {MIN, -2, 2, MAX}) due("mixed(" + c + ")", x.mixed(c), UNKNOWN);
        x.mark(0, 0);
        due("mixed(2), and no way", x.mixed(2), UNKNOWN);
        due("mixed(-2), and no way", x.mixed(-2), UNKNOWN);
        due("mixed(NONE) without DEAD", new LoftGraves().mixed(NONE), 0);
        due("mixed(0) without DEAD", new LoftGraves().mixed(0), UNKNOWN);
    }

    @Says("Promise 26: MIXED")
    static void mixedChangesNothing() {
        LoftGraves x = coffins(2);
        x.label(0, 1);
        Cases.asked(x, 1, "mixed(NONE)", () -> x.mixed(NONE));
        Cases.asked(x, 0, "mixed(0)", () -> x.mixed(0));
        Cases.asked(x, 2, "fits()", () -> x.fits());
    }

    // ---- TWO CHURCHES

    private static void churchesAre(LoftGraves x, int gap, int set) {
        due("churches(0)", x.churches(0), gap);
        due("churches(1)", x.churches(1), set);
    }

    @Says("3 LAYING: TWO CHURCHES: a SET of THE LOFT for one, the rest for the other")
    static void emptyLoftAndOne() {
        churchesAre(new LoftGraves(), 0, 0);
        churchesAre(Cases.told("dead 0 1 1;"), 0, 0);
        churchesAre(Cases.told("dead 99 1 1;"), 99, 0);
        LoftGraves x = Cases.told("yard 0;dead 30 1 1;dead 20 1 1;dead 10 1 1;");
        churchesAre(x, 0, 1);
        x.lay(0, 0);
        churchesAre(x, 10, 2);
        x.knock(1);
        churchesAre(x, 10, 0);
        x.knock(2);
        churchesAre(x, 0, 0);
    }

    @Says("3 LAYING: by which the sums of RANKS differ least; of like ones the least SET.")
    static void leastGapLeastSet() {
        churchesAre(Cases.told("dead 64 1 1;dead 32 1 1;dead 16 1 1;dead 8 1 1;dead 4 1 1;dead 2 1 1;dead 1 1 1;"), 1, 1);
        churchesAre(Cases.told("dead 1 1 1;dead 2 1 1;dead 4 1 1;dead 8 1 1;dead 16 1 1;dead 32 1 1;dead 64 1 1;"), 1, 63);
        churchesAre(Cases.told("dead 99 1 1;".repeat(7)), 99, 7);
        churchesAre(Cases.told("dead 0 1 1;".repeat(7)), 0, 0);
        churchesAre(Cases.told("dead 5 1 1;dead 5 1 1;"), 0, 1);
        churchesAre(Cases.told("dead 3 1 1;dead 0 1 1;"), 3, 0);
    }

    @Says("Promise 27: TWO CHURCHES: what = 0 by how much they differ, 1 the SET. OUTSIDE.")
    static void boundsOfChurches() {
        LoftGraves x = coffins(2);
        for (int what : new int[] {MIN, -1, 2, MAX}) due("churches(" + what + ")", x.churches(what), OUTSIDE);
        Cases.asked(x, 0, "churches(0)", () -> x.churches(0));
        Cases.asked(x, 1, "churches(1)", () -> x.churches(1));
        x.letter(0, 99);
        churchesAre(x, 94, 1);
    }
}
