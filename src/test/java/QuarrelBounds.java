/** Boundary cases of OFFENCES, KIN, LAYING, WHEN, SPAN, BRIBE, and of promises 17 to 22. */
public final class QuarrelBounds {
    private static final int NONE = Cases.NONE, UNKNOWN = Cases.UNKNOWN, OUTSIDE = Cases.OUTSIDE, NOT = Cases.NOT;
    private static final int MIN = Cases.MIN, MAX = Cases.MAX;

    public static void main(String[] args) {
        Cases.runAll(QuarrelBounds.class, 17, 22);
    }

    private static void due(String call, long got, long want) {
        Cases.due(call, got, want);
    }

    /** As many unlike KIN, of the RANKS told, each laid in the YARD of its number. */
    private static LoftGraves rowOf(int... ranks) {
        StringBuilder text = new StringBuilder(Cases.EIGHT_YARDS);
        for (int d = 0; d < ranks.length; d++) text.append("dead ").append(ranks[d]).append(" 1 ").append(d).append(';');
        LoftGraves x = Cases.told(text.toString());
        for (int d = 0; d < ranks.length; d++) x.lay(d, d);
        return x;
    }

    private static void layingIs(LoftGraves x, int quarrels, int... yards) {
        due("laying(NONE)", x.laying(NONE), quarrels);
        for (int d = 0; d < yards.length; d++) due("laying(" + d + ")", x.laying(d), yards[d]);
    }

    // ---- OFFENCES, KIN

    @Says("2 THE LOFT: a ahead of b in the ORDER by CUSTOM that they would have now (BOARDS not looked at), b in a lesser YARD")
    static void whoOffends() {
        LoftGraves x = rowOf(1, 2, 3);
        due("nobody lies ahead", x.offended(0), 0);
        due("one does", x.offended(1), 1);
        due("two do", x.offended(2), 3);
        LoftGraves y = rowOf(3, 2, 1);
        for (int d = 0; d < 3; d++) due("as the ORDER is, " + d, y.offended(d), 0);
    }

    @Says("2 THE LOFT: that they would have now")
    static void orderAsItIsNow() {
        LoftGraves x = rowOf(5, 5);
        due("of like ones the least is ahead", x.offended(1), 0);
        x.letter(1, 6);
        due("more RANK", x.offended(1), 1);
        Cases.custom(x, "kin;");
        due("less KIN", x.offended(1), 0);
        Cases.custom(x, "");
        due("no clauses", x.offended(1), 0);
        due("no QUARRELS", x.quarrels(), 0);
    }

    @Says("2 THE LOFT: of like ones the least")
    static void likeOnesLaidTheOtherWay() {
        LoftGraves x = Cases.told("yard 0;yard 0;dead 5 5 1;dead 5 5 2;");
        x.lay(0, 1);
        x.lay(1, 0);
        due("the lesser number is ahead", x.offended(0), 2);
        due("the greater is not", x.offended(1), 0);
        due("quarrels()", x.quarrels(), 1);
    }

    @Says("2 THE LOFT: (BOARDS not looked at)")
    static void boardsNotLookedAt() {
        LoftGraves x = Cases.told("yard 0;yard 0;dead 1 0 1;dead 2 0 2;");
        x.rats(8, 10);
        x.seed(Cases.seedForRats(0, 1));
        due("0 is URGENT", x.rats(1, 1), 1);
        due("laying: 1 ahead of 0", x.laying(1), 0);
        x.lay(0, 0);
        x.lay(1, 1);
        due("offended(1)", x.offended(1), 1);
        due("offended(0)", x.offended(0), 0);
    }

    @Says("2 THE LOFT: KIN of two that are laid, alike, but not in YARDS side by side: a QUARREL.")
    static void sideBySide() {
        String alike = Cases.EIGHT_YARDS + "dead 5 5 3;dead 5 5 3;dead 5 5 4;";
        int[][] apart = {{0, 1, 0}, {0, 2, 1}, {0, 7, 1}, {6, 7, 0}, {5, 7, 1}, {3, 4, 0}, {1, 4, 1}};
        for (int[] two : apart) {
            LoftGraves x = Cases.told(alike);
            x.lay(0, two[0]);
            due("one alone", x.quarrels(), 0);
            x.lay(1, two[1]);
            due("in " + two[0] + " and " + two[1], x.quarrels(), two[2]);
        }
        LoftGraves y = Cases.told(alike);
        y.lay(0, 1);
        y.lay(1, 0);
        due("side by side the other way: the offence alone", y.quarrels(), 1);
        LoftGraves z = Cases.told(alike);
        z.lay(1, 0);
        z.lay(2, 7);
        due("unlike KIN", z.quarrels(), 0);
    }

    @Says("2 THE LOFT: KIN of two that are laid, alike")
    static void theLeastAndTheMostKin() {
        for (int kin : new int[] {0, 9}) {
            LoftGraves x = Cases.told(Cases.EIGHT_YARDS + "dead 5 5 " + kin + ";dead 5 5 " + kin + ";");
            x.lay(0, 0);
            x.lay(1, 2);
            due("KIN " + kin, x.quarrels(), 1);
        }
    }

    @Says("2 THE LOFT: QUARRELS: both together.")
    static void fewestAndMostQuarrels() {
        LoftGraves x = Cases.told(Cases.EIGHT_YARDS + Cases.SEVEN_DEAD);
        due("nobody laid", x.quarrels(), 0);
        for (int d = 0; d < 7; d++) x.lay(d, 7 - d);
        due("offences", x.offended(0), 126);
        due("21 offences, 15 of KIN", x.quarrels(), 36);
    }

    // ---- promises 17 and 18

    @Says("Promise 17: UNKNOWN, NOT: it is not laid.")
    static void notOffended() {
        LoftGraves x = Cases.told("yard 0;yard 0;dead 1 1 1;dead 2 1 2;dead 3 1 3;");
        x.lay(0, 0);
        x.knock(1);
        for (int d : new int[] {MIN, -1, 3, MAX}) due("offended(" + d + ")", x.offended(d), UNKNOWN);
        Cases.refused(x, NOT, "one that KNOCKED", () -> x.offended(1));
        Cases.refused(x, NOT, "one of THE LOFT", () -> x.offended(2));
        Cases.asked(x, 0, "the only one laid", () -> x.offended(0));
    }

    @Says("Promise 17: Who OFFENDS one (a SET).")
    static void offendedByAll() {
        LoftGraves x = rowOf(1, 2, 3, 4, 5, 6, 7);
        for (int d = 0; d < 7; d++) due("offended(" + d + ")", x.offended(d), (1 << d) - 1);
        due("quarrels()", x.quarrels(), 21);
    }

    @Says("Promise 18: QUARRELS.")
    static void quarrelsOfTheLaidAlone() {
        LoftGraves x = Cases.told(Cases.EIGHT_YARDS + Cases.SEVEN_DEAD);
        x.lay(6, 0);
        x.knock(5);
        Cases.asked(x, 0, "one laid, one KNOCKED, five in THE LOFT", () -> x.quarrels());
        x.lay(0, 1);
        due("two laid", x.quarrels(), 1);
    }

    // ---- LAYING

    @Says("3 LAYING: all of THE LOFT to free YARDS that are SOFT, unlike")
    static void freeAndSoftAlone() {
        LoftGraves x = Cases.told("yard 0;yard 1;yard 0;yard 0;dead 9 1 1;dead 8 1 2;dead 7 1 3;");
        layingIs(x, 0, 0, 2, 3);
        x.lay(0, 0);
        layingIs(x, 0, NONE, 2, 3);
        x.lay(1, 1);
        layingIs(x, 0, NONE, NONE, 2);
    }

    @Says("3 LAYING: NONE: too few.")
    static void tooFewYards() {
        LoftGraves x = Cases.told("yard 0;yard 0;yard 1;dead 9 1 1;dead 8 1 2;dead 7 1 3;");
        layingIs(x, NONE, NONE, NONE, NONE);
        x.day(1);
        layingIs(x, 0, 0, 1, 2);
        x.day(-1);
        layingIs(x, NONE, NONE, NONE, NONE);
        x.knock(0);
        due("nobody to be laid in FROST", x.laying(NONE), NONE);
        x.knock(1);
        x.knock(2);
        due("nobody in THE LOFT", x.laying(NONE), 0);
        LoftGraves y = Cases.told("dead 1 1 1;");
        layingIs(y, NONE, NONE);
        LoftGraves z = Cases.told(Cases.EIGHT_YARDS + Cases.SEVEN_DEAD);
        z.lay(0, 0);
        due("seven free, six in THE LOFT", z.laying(NONE) >= 0 ? 1 : 0, 1);
    }

    @Says("3 LAYING: NONE: too few.")
    static void justEnoughYards() {
        LoftGraves x = Cases.told("yard 0;".repeat(7) + "yard 1;" + "dead 5 5 1;dead 5 5 2;dead 5 5 3;dead 5 5 4;dead 5 5 5;dead 5 5 6;dead 5 5 7;");
        layingIs(x, 0, 0, 1, 2, 3, 4, 5, 6);
        x.lay(0, 6);
        due("six for six", x.laying(NONE), 6);
        x.lay(6, 7);
        due("six for five", x.laying(NONE) >= 0 ? 1 : 0, 1);
        LoftGraves y = Cases.told("yard 0;".repeat(6) + "yard 1;yard 1;" + Cases.SEVEN_DEAD);
        due("six for seven", y.laying(NONE), NONE);
    }

    @Says("3 LAYING: also with those that are laid, and of these among themselves")
    static void withThoseThatAreLaid() {
        LoftGraves x = Cases.told(Cases.EIGHT_YARDS + "dead 1 1 1;dead 2 1 2;dead 9 1 3;dead 1 1 4;");
        x.lay(0, 0);
        x.lay(1, 1);
        x.lay(2, 7);
        due("offences among the laid", x.quarrels(), 3);
        layingIs(x, 4, NONE, NONE, NONE, 2);
        x.knock(3);
        due("nobody in THE LOFT", x.laying(NONE), 3);
        LoftGraves y = Cases.told(Cases.EIGHT_YARDS + "dead 5 5 1;dead 5 5 1;");
        y.lay(0, 4);
        layingIs(y, 0, NONE, 5);
    }

    @Says("3 LAYING: of like ones the first (DEAD by DEAD the lesser YARD)")
    static void theFirstOfLikeLayings() {
        LoftGraves x = Cases.told(Cases.EIGHT_YARDS + "dead 5 5 1;");
        layingIs(x, 0, 0);
        LoftGraves y = Cases.told(Cases.EIGHT_YARDS + "dead 1 1 1;dead 9 1 2;");
        layingIs(y, 0, 1, 0);
        LoftGraves z = Cases.told("yard 0;yard 9;yard 0;yard 9;yard 0;dead 5 5 1;dead 5 5 1;dead 5 5 1;");
        layingIs(z, 3, 0, 2, 4);
        LoftGraves w = Cases.told(Cases.EIGHT_YARDS + Cases.SEVEN_DEAD);
        layingIs(w, 15, 0, 1, 2, 3, 4, 5, 6);
    }

    @Says("Promise 19: d = NONE the QUARRELS, else the YARD of one (NONE: not in THE LOFT); NONE. UNKNOWN.")
    static void layingOfNobody() {
        LoftGraves x = Cases.told(Cases.EIGHT_YARDS + "dead 1 1 1;dead 1 1 1;dead 1 1 1;");
        x.lay(0, 3);
        x.knock(1);
        for (int d : new int[] {MIN, -2, 3, MAX}) due("laying(" + d + ")", x.laying(d), UNKNOWN);
        due("the laid one", x.laying(0), NONE);
        due("the one that KNOCKED", x.laying(1), NONE);
        Cases.asked(x, 4, "the one of THE LOFT", () -> x.laying(2));
        due("without DEAD", new LoftGraves().laying(NONE), 0);
    }

    // ---- WHEN, SPAN

    @Says("3 LAYING: the fewest days of HEAT h (1 .. 9) behind which n free YARDS are SOFT (0 on; 999 at most; NONE)")
    static void noDayMostDaysNever() {
        LoftGraves x = Cases.told("sun 1 1;yard 0;yard 99;dead 1 1 1;");
        due("now", x.when(1, 1), 0);
        due("never: yard 1 thaws by 0", x.when(2, 1), NONE);
        due("by 1 a day", x.when(2, 2), 99);
        LoftGraves y = Cases.told("sun 1 0;yard 99;yard 98;");
        due("98 inches", y.when(1, 1), 98);
        due("99 inches", y.when(2, 1), 99);
        LoftGraves z = Cases.told("sun 1 20;yard 99;yard 0;yard 1;");
        due("SOFT already, though it does not thaw", z.when(1, 9), 0);
        due("never", z.when(3, 9), NONE);
    }

    @Says("3 LAYING: the fewest days of HEAT h (1 .. 9) behind which n free YARDS are SOFT")
    static void justSoft() {
        LoftGraves x = Cases.told("sun 5 0;yard 9;yard 10;yard 11;");
        due("9 by 5", x.when(1, 1), 2);
        due("10 by 5", x.when(2, 1), 2);
        due("11 by 5", x.when(3, 1), 3);
        x.day(1);
        due("a day nearer", x.when(2, 1), 1);
        due("a day nearer", x.when(3, 1), 2);
    }

    @Says("3 LAYING: n free YARDS are SOFT")
    static void whenFreeOnesAlone() {
        LoftGraves x = Cases.told("sun 1 0;yard 0;yard 5;yard 9;dead 1 1 1;dead 1 1 1;dead 1 1 1;");
        x.lay(0, 0);
        due("the first is taken", x.when(1, 1), 5);
        due("the second", x.when(2, 1), 9);
        due("the third", x.when(3, 9), NONE);
        x.lay(1, 1);
        x.lay(2, 2);
        due("none is free", x.when(1, 9), NONE);
    }

    @Says("Promise 20: WHEN (n 1 .. 8); NONE. OUTSIDE.")
    static void boundsOfWhen() {
        LoftGraves x = Cases.told("sun 1 0;" + "yard 9;".repeat(8));
        for (int n : new int[] {MIN, -1, 0, 9, MAX}) due("when(" + n + ", 1)", x.when(n, 1), OUTSIDE);
        for (int h : new int[] {MIN, -1, 0, 10, MAX}) due("when(1, " + h + ")", x.when(1, h), OUTSIDE);
        Cases.asked(x, 9, "when(1, 1)", () -> x.when(1, 1));
        due("when(8, 1)", x.when(8, 1), 9);
        due("when(8, 9)", x.when(8, 9), 1);
        LoftGraves y = Cases.told("yard 0;".repeat(7));
        due("when(7, 1)", y.when(7, 1), 0);
        due("more than there are", y.when(8, 1), NONE);
        due("more than there are, and too many", y.when(9, 1), OUTSIDE);
    }

    @Says("3 LAYING: SPAN: days of HEAT between a and b: the fewest by b, the most by a.")
    static void fewestAndMost() {
        LoftGraves x = Cases.told("sun 1 0;yard 9;yard 99;");
        due("the fewest", x.span(1, 2, 4, 0), 3);
        due("the most", x.span(1, 2, 4, 1), 5);
        due("the fewest", x.span(2, 1, 9, 0), 11);
        due("the most", x.span(2, 1, 9, 1), 99);
        due("a alone", x.span(1, 3, 3, 0), 3);
        due("a alone", x.span(1, 3, 3, 1), 3);
    }

    @Says("Promise 21: SPAN (n 1 .. 8, a 1 .. 9, b a .. 9): what = 0 the fewest, 1 the most; NONE. OUTSIDE.")
    static void boundsOfSpan() {
        LoftGraves x = Cases.told("sun 1 0;" + "yard 9;".repeat(8));
        for (int n : new int[] {MIN, 0, 9, MAX}) due("span(" + n + ", 1, 9, 0)", x.span(n, 1, 9, 0), OUTSIDE);
        for (int a : new int[] {MIN, 0, 10, MAX}) due("span(1, " + a + ", 9, 0)", x.span(1, a, 9, 0), OUTSIDE);
        for (int b : new int[] {MIN, 4, 10, MAX}) due("span(1, 5, " + b + ", 0)", x.span(1, 5, b, 0), OUTSIDE);
        for (int what : new int[] {MIN, -1, 2, MAX}) due("span(1, 1, 9, " + what + ")", x.span(1, 1, 9, what), OUTSIDE);
        due("span(1, 10, 10, 1)", x.span(1, 10, 10, 1), OUTSIDE);
        due("span(1, 0, 0, 1)", x.span(1, 0, 0, 1), OUTSIDE);
        Cases.asked(x, 9, "span(1, 1, 1, 0)", () -> x.span(1, 1, 1, 0));
        due("span(8, 9, 9, 1)", x.span(8, 9, 9, 1), 1);
        due("span(8, 5, 5, 1)", x.span(8, 5, 5, 1), 2);
    }

    @Says("Promise 21: what = 0 the fewest, 1 the most; NONE.")
    static void spanNever() {
        LoftGraves x = Cases.told("sun 1 2;yard 0;yard 9;");
        due("the fewest", x.span(2, 2, 3, 0), 9);
        due("the most: never", x.span(2, 2, 3, 1), NONE);
        due("the fewest: never", x.span(2, 1, 2, 0), NONE);
        due("too few YARDS", x.span(3, 1, 9, 0), NONE);
        due("too few YARDS", x.span(3, 1, 9, 1), NONE);
        due("now", x.span(1, 1, 9, 1), 0);
    }

    // ---- BRIBE

    private static LoftGraves givers(int first, int second) {
        LoftGraves x = Cases.ruled("yard 0;dead 5 5 1;dead 5 5 1;", "gifts;");
        Cases.give(x, 0, first);
        Cases.give(x, 1, second);
        return x;
    }

    @Says("3 LAYING: the least GIFTS more (0 .. 999;")
    static void noneOrAll999() {
        due("it is the first", givers(0, 0).bribe(0, 0), 0);
        due("it is the first by GIFTS", givers(0, 1).bribe(1, 0), 0);
        due("just 1", givers(0, 0).bribe(1, 0), 1);
        due("just 999 of the lesser number", givers(0, 999).bribe(0, 0), 999);
        due("1000 of the lesser number", givers(0, 1000).bribe(0, 0), NONE);
        due("just 999 of the greater number", givers(998, 0).bribe(1, 0), 999);
        due("1000 of the greater number", givers(999, 0).bribe(1, 0), NONE);
        due("1000, and some had", givers(1005, 6).bribe(1, 0), NONE);
        due("999, and some had", givers(1005, 7).bribe(1, 0), 999);
    }

    @Says("3 LAYING: 9999 at most in all) by which one of THE LOFT is p-th")
    static void bribe9999AtMost() {
        due("9990 and 9 of the greater number", givers(9998, 9990).bribe(1, 0), 9);
        due("9990 and 10 of the greater number", givers(9999, 9990).bribe(1, 0), NONE);
        due("9990 and 9 of the lesser number", givers(9990, 9999).bribe(0, 0), 9);
        due("9999 and 1", givers(9999, 9999).bribe(1, 0), NONE);
        due("9999 and 0", givers(9999, 9999).bribe(0, 0), 0);
        due("9000 and 999", givers(9998, 9000).bribe(1, 0), 999);
        due("9000 and 1000", givers(9999, 9000).bribe(1, 0), NONE);
    }

    @Says("3 LAYING: p-th of the ORDER or ahead of that, nothing else changing; NONE.")
    static void places() {
        LoftGraves x = Cases.ruled("dead 5 5 1;dead 5 5 1;dead 5 5 1;dead 5 5 1;", "gifts;");
        x.gift(0, 30);
        x.gift(1, 20);
        x.gift(2, 10);
        int[] want = {31, 21, 11, 0, 0, 0, 0};
        for (int p = 0; p < 7; p++) due("bribe(3, " + p + ")", x.bribe(3, p), want[p]);
        int[] ofTheSecond = {11, 0, 0};
        for (int p = 0; p < 3; p++) due("bribe(1, " + p + ")", x.bribe(1, p), ofTheSecond[p]);
        Cases.asked(x, 0, "bribe(0, 0)", () -> x.bribe(0, 0));
    }

    @Says("3 LAYING: nothing else changing; NONE.")
    static void giftsThatDoNotCount() {
        LoftGraves x = Cases.told("dead 5 5 1;dead 5 5 1;");
        due("GIFTS are no clause", x.bribe(1, 0), NONE);
        due("GIFTS are no clause", x.bribe(1, 1), 0);
        Cases.custom(x, "rank;waits;gifts;");
        due("the third clause", x.bribe(1, 0), 1);
        x.letter(0, 6);
        due("less RANK", x.bribe(1, 0), NONE);
        Cases.custom(x, "");
        due("no clauses", x.bribe(1, 0), NONE);
    }

    @Says("3 LAYING: by which one of THE LOFT is p-th of the ORDER")
    static void urgentOnesStayAhead() {
        LoftGraves x = Cases.ruled("dead 5 5 1;dead 5 5 1;", "gifts;");
        x.rats(8, 10);
        x.seed(Cases.seedForRats(1, 0));
        due("1 is URGENT", x.rats(1, 1), 2);
        due("bribe(0, 0)", x.bribe(0, 0), NONE);
        due("bribe(0, 1)", x.bribe(0, 1), 0);
        due("bribe(1, 0)", x.bribe(1, 0), 0);
        x.rats(9, 10);
        due("both are URGENT", x.bribe(0, 0), 0);
        due("both are URGENT", x.bribe(1, 0), 1);
    }

    @Says("3 LAYING: by which one of THE LOFT is p-th of the ORDER")
    static void onlyThoseOfTheLoftAreAhead() {
        LoftGraves x = Cases.ruled("yard 0;dead 5 5 1;dead 5 5 1;dead 5 5 1;", "gifts;");
        x.gift(0, 50);
        x.gift(1, 40);
        due("bribe(2, 0)", x.bribe(2, 0), 51);
        x.lay(0, 0);
        due("behind the laid one nobody stands", x.bribe(2, 0), 41);
        x.knock(1);
        due("alone", x.bribe(2, 0), 0);
    }

    @Says("Promise 22: BRIBE (p 0 .. 6); NONE. UNKNOWN, OUTSIDE, NOT: it is not in THE LOFT.")
    static void boundsOfBribe() {
        LoftGraves x = Cases.ruled("yard 0;" + Cases.SEVEN_DEAD, "gifts;");
        for (int d : new int[] {MIN, -1, 7, MAX}) due("bribe(" + d + ", 0)", x.bribe(d, 0), UNKNOWN);
        for (int p : new int[] {MIN, -1, 7, MAX}) due("bribe(0, " + p + ")", x.bribe(0, p), OUTSIDE);
        due("bribe(6, 0)", x.bribe(6, 0), 1);
        due("bribe(6, 5)", x.bribe(6, 5), 1);
        due("bribe(6, 6)", x.bribe(6, 6), 0);
        x.lay(0, 0);
        x.knock(1);
        due("the laid one", x.bribe(0, 6), NOT);
        due("the one that KNOCKED", x.bribe(1, 0), NOT);
    }

    @Says("Promise 22: NOT: it is not in THE LOFT.")
    static void bribeChangesNothing() {
        LoftGraves x = givers(5, 2);
        Cases.asked(x, 4, "bribe(1, 0)", () -> x.bribe(1, 0));
        x.knock(0);
        Cases.refused(x, NOT, "bribe(0, 0)", () -> x.bribe(0, 0));
    }
}
