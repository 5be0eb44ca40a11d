/** Boundary cases of THE LOFT and of promises 9 to 16. */
public final class DayBounds {
    private static final int NONE = Cases.NONE, UNKNOWN = Cases.UNKNOWN, OUTSIDE = Cases.OUTSIDE, NOT = Cases.NOT;
    private static final int MIN = Cases.MIN, MAX = Cases.MAX;
    private static final String TWO = "yard 3;yard 0;dead 5 6 1;dead 7 8 2;";

    public static void main(String[] args) {
        Cases.runAll(DayBounds.class, 9, 16);
    }

    private static void due(String call, long got, long want) {
        Cases.due(call, got, want);
    }

    // ---- THE LOFT

    @Says("2 THE LOFT: who is not laid yet and did not KNOCK")
    static void whoIsInTheLoft() {
        LoftGraves x = Cases.told("yard 0;" + Cases.SEVEN_DEAD);
        due("all", x.told(5), 127);
        x.lay(0, 0);
        due("but the laid one", x.told(5), 126);
        x.knock(6);
        due("and the one that KNOCKED", x.told(5), 62);
        for (int d = 1; d < 6; d++) x.knock(d);
        due("nobody", x.told(5), 0);
        due("order(0)", x.order(0), NONE);
    }

    @Says("2 THE LOFT: URGENT ones (with BOARDS 0) first")
    static void urgentOnesFirst() {
        LoftGraves x = Cases.told("yard 0;yard 0;dead 1 0 0;dead 99 0 0;dead 2 0 0;dead 98 0 0;");
        x.lay(1, 0);
        x.lay(3, 1);
        x.keep(0);
        x.rats(8, 10);
        due("BOARDS 1 are not 0", x.dead(0, 4), 1);
        Cases.inOrder(x, 2, 0);
        x.goBack(0);
        // only 0 loses the ninth board
        x.rats(8, 10);
        x.seed(Cases.seedForRats(0, 1));
        due("who has no BOARDS", x.rats(1, 1), 1);
        Cases.inOrder(x, 0, 2);
    }

    @Says("2 THE LOFT: URGENT ones (with BOARDS 0) first; then by CUSTOM")
    static void urgentOnesAmongThemselves() {
        LoftGraves x = Cases.told("dead 1 0 0;dead 3 0 0;dead 2 0 0;dead 3 0 0;");
        x.rats(99, 10);
        Cases.inOrder(x, 1, 3, 2, 0);
    }

    @Says("2 THE LOFT: more RANK, more days WAITED, more GIFTS, less KIN ahead, the first clause first")
    static void eachClauseByOne() {
        LoftGraves x = Cases.ruled("dead 4 4 4;dead 5 3 5;dead 3 5 3;", "rank;");
        Cases.inOrder(x, 1, 0, 2);
        Cases.custom(x, "waits;");
        Cases.inOrder(x, 2, 0, 1);
        Cases.custom(x, "kin;");
        Cases.inOrder(x, 2, 0, 1);
        x.gift(0, 1);
        x.gift(1, 2);
        Cases.custom(x, "gifts;");
        Cases.inOrder(x, 1, 0, 2);
    }

    @Says("2 THE LOFT: more RANK, more days WAITED, more GIFTS, less KIN ahead, the first clause first")
    static void theFirstClauseFirst() {
        String ends = "dead 0 999 0;dead 1 0 9;";
        Cases.inOrder(Cases.ruled(ends, "rank;waits;kin;"), 1, 0);
        Cases.inOrder(Cases.ruled(ends, "waits;rank;"), 0, 1);
        Cases.inOrder(Cases.ruled(ends, "kin;rank;"), 0, 1);
        LoftGraves x = Cases.ruled("dead 1 0 9;dead 1 0 8;", "rank;waits;gifts;kin;");
        Cases.inOrder(x, 1, 0);
        x.gift(0, 1);
        Cases.inOrder(x, 0, 1);
        Cases.give(x, 1, 9999);
        Cases.inOrder(x, 1, 0);
        x.letter(0, 2);
        Cases.inOrder(x, 0, 1);
    }

    @Says("2 THE LOFT: the first clause first")
    static void theMostOfALaterClause() {
        LoftGraves x = Cases.ruled("dead 1 0 0;dead 2 0 9;", "rank;gifts;");
        Cases.give(x, 0, 9999);
        Cases.inOrder(x, 1, 0);
        Cases.custom(x, "gifts;rank;");
        Cases.inOrder(x, 0, 1);
        Cases.custom(x, "rank;kin;");
        Cases.inOrder(x, 1, 0);
        LoftGraves y = Cases.ruled("yard 0;dead 1 999 0;dead 2 0 0;", "rank;waits;");
        for (int k = 0; k < 91; k++) y.spring(99, 0);
        Cases.inOrder(y, 1, 0);
        y.letter(1, 1);
        due("9999 days", y.dead(0, 1), 9999);
        Cases.inOrder(y, 0, 1);
    }

    @Says("2 THE LOFT: the first clause first")
    static void oneGiftMoreThanAllElse() {
        LoftGraves x = Cases.ruled("dead 99 999 0;dead 0 0 9;", "gifts;rank;waits;kin;");
        Cases.inOrder(x, 0, 1);
        x.gift(1, 1);
        Cases.inOrder(x, 1, 0);
        Cases.custom(x, "kin;gifts;rank;waits;");
        Cases.inOrder(x, 0, 1);
        Cases.custom(x, "waits;gifts;kin;rank;");
        Cases.inOrder(x, 0, 1);
    }

    @Says("2 THE LOFT: of like ones the least")
    static void likeOnesByNumber() {
        Cases.inOrder(Cases.told(Cases.SEVEN_DEAD), 0, 1, 2, 3, 4, 5, 6);
        Cases.inOrder(Cases.ruled("dead 1 1 9;dead 2 2 8;dead 3 3 7;", ""), 0, 1, 2);
        Cases.inOrder(Cases.ruled(Cases.SEVEN_DEAD, "kin;gifts;waits;rank;"), 0, 1, 2, 3, 4, 5, 6);
    }

    @Says("2 THE LOFT: BOARDS of each are 9 at first.")
    static void nineBoards() {
        LoftGraves x = Cases.told(Cases.SEVEN_DEAD);
        for (int d = 0; d < 7; d++) due("dead(" + d + ", 4)", x.dead(d, 4), 9);
        due("eight NIGHTS", x.rats(8, 10), 0);
        due("the ninth", x.rats(1, 10), 127);
    }

    @Says("2 THE LOFT: above 0 YARDS thaw (FROST 0 at least)")
    static void frostZeroAtLeast() {
        LoftGraves x = Cases.told("sun 2 0;yard 0;yard 1;yard 2;yard 3;");
        due("day(1)", x.day(1), 7);
        int[] want = {0, 0, 0, 1};
        for (int i = 0; i < 4; i++) due("yard(" + i + ", 0)", x.yard(i, 0), want[i]);
        LoftGraves y = Cases.told("sun 20 0;yard 99;");
        due("day(9) of 180 inches", y.day(9), 1);
        due("yard(0, 0)", y.yard(0, 0), 0);
    }

    @Says("2 THE LOFT: below 0 each FROST is as many inches deeper as h is below 0 (99 at most)")
    static void frost99AtMost() {
        LoftGraves x = Cases.told("yard 0;yard 97;yard 98;yard 99;");
        x.day(-1);
        int[] one = {1, 98, 99, 99};
        for (int i = 0; i < 4; i++) due("day(-1): yard(" + i + ", 0)", x.yard(i, 0), one[i]);
        LoftGraves y = Cases.told("yard 0;yard 89;yard 90;yard 91;");
        y.day(-9);
        int[] nine = {9, 98, 99, 99};
        for (int i = 0; i < 4; i++) due("day(-9): yard(" + i + ", 0)", y.yard(i, 0), nine[i]);
    }

    @Says("2 THE LOFT: below 0 each FROST is as many inches deeper")
    static void frostAlikeInAllYards() {
        LoftGraves x = Cases.told("sun 20 20;" + Cases.EIGHT_YARDS);
        x.day(-9);
        for (int i = 0; i < 8; i++) due("yard(" + i + ", 0)", x.yard(i, 0), 9);
    }

    @Says("2 THE LOFT: but of YARDS in which somebody lies")
    static void noFrostWhereSomebodyLies() {
        LoftGraves x = Cases.told("yard 0;yard 50;yard 0;dead 1 1 1;dead 1 1 1;");
        x.lay(0, 0);
        x.lay(1, 1);
        due("day(-9)", x.day(-9), 3);
        due("yard(0, 0)", x.yard(0, 0), 0);
        due("yard(1, 0)", x.yard(1, 0), 0);
        due("yard(2, 0)", x.yard(2, 0), 9);
    }

    @Says("2 THE LOFT: All in THE LOFT have WAITED a day more")
    static void whoWaits() {
        LoftGraves x = Cases.told("yard 0;dead 1 5 1;dead 1 5 1;dead 1 5 1;");
        x.lay(0, 0);
        x.knock(1);
        x.day(1);
        x.day(0);
        x.day(-1);
        due("laid", x.dead(0, 1), 5);
        due("KNOCKED", x.dead(1, 1), 5);
        due("in THE LOFT", x.dead(2, 1), 8);
    }

    @Says("2 THE LOFT: (9999 at most)")
    static void waited9999AtMost() {
        LoftGraves x = Cases.ruled("dead 1 998 1;dead 1 999 1;", "waits;");
        for (int k = 0; k < 90; k++) x.spring(99, 0);
        due("999 and 8910", x.dead(1, 1), 9909);
        x.spring(89, 0);
        due("9998", x.dead(1, 1), 9998);
        x.day(0);
        due("just 9999", x.dead(1, 1), 9999);
        due("one less", x.dead(0, 1), 9998);
        Cases.inOrder(x, 1, 0);
        x.day(0);
        due("no more than 9999", x.dead(1, 1), 9999);
        due("just 9999", x.dead(0, 1), 9999);
        Cases.inOrder(x, 0, 1);
        x.spring(99, 0);
        due("no more than 9999", x.dead(0, 1), 9999);
    }

    @Says("2 THE LOFT: SOFT: FROST 0.")
    static void softAtZeroAlone() {
        LoftGraves x = Cases.told("yard 0;yard 1;yard 99;yard 0;");
        due("day(0)", x.day(0), 9);
    }

    @Says("2 THE LOFT: A NIGHT of RATS r (0 .. 10)")
    static void noneAndAllRats() {
        LoftGraves x = Cases.told(Cases.SEVEN_DEAD);
        due("rats(99, 0)", x.rats(99, 0), 0);
        for (int d = 0; d < 7; d++) due("dead(" + d + ", 4)", x.dead(d, 4), 9);
        x.rats(1, 10);
        for (int d = 0; d < 7; d++) due("dead(" + d + ", 4)", x.dead(d, 4), 8);
    }

    @Says("2 THE LOFT: each in THE LOFT, in order of numbers")
    static void ratsInOrderOfNumbers() {
        LoftGraves x = Cases.told("yard 0;dead 1 1 1;dead 9 1 1;dead 1 1 1;dead 99 9 1;");
        x.lay(0, 0);
        x.knock(2);
        x.seed(Cases.seedForRats(0, 9));
        x.rats(1, 5);
        int[] want = {9, 8, 9, 9};
        for (int d = 0; d < 4; d++) due("dead(" + d + ", 4)", x.dead(d, 4), want[d]);
        due("two DRAWS", x.seed(0), Cases.next(Cases.seedForRats(0, 9), 2));
    }

    @Says("2 THE LOFT: a DRAW of 10 below r")
    static void aDrawBelow() {
        for (int r = 0; r <= 10; r++) {
            for (int draw = 0; draw < 10; draw++) {
                LoftGraves x = Cases.told("dead 1 1 1;");
                x.seed(Cases.seedForRats(draw, 0));
                x.rats(1, r);
                due("BOARDS behind a DRAW " + draw + " and r " + r, x.dead(0, 4), draw < r ? 8 : 9);
            }
        }
    }

    @Says("2 THE LOFT: a DRAW of 10 below r")
    static void drawsThatChangeNothing() {
        LoftGraves x = Cases.told("dead 1 1 1;dead 1 1 1;");
        x.rats(3, 0);
        due("r 0", Cases.seedOf(x), Cases.next(0, 6));
        x.rats(9, 10);
        due("r 10", Cases.seedOf(x), Cases.next(0, 24));
        x.rats(2, 10);
        due("without BOARDS", Cases.seedOf(x), Cases.next(0, 28));
    }

    @Says("2 THE LOFT: BOARDS one less (0 at least)")
    static void boardsZeroAtLeast() {
        LoftGraves x = Cases.told("dead 1 1 1;");
        x.rats(9, 10);
        due("nine NIGHTS", x.dead(0, 4), 0);
        x.rats(1, 10);
        due("ten", x.dead(0, 4), 0);
        x.rats(99, 10);
        due("more", x.dead(0, 4), 0);
    }

    @Says("2 THE LOFT: in a YARD in which nobody lies: HOURS: FROST of it (it is 0 then) and 4")
    static void hoursOfFrost() {
        LoftGraves x = Cases.told("yard 0;yard 1;yard 99;dead 1 1 1;dead 1 1 1;dead 1 1 1;");
        due("FROST 0", x.lay(0, 0), 4);
        due("FROST 1", x.lay(1, 1), 5);
        due("FROST 99", x.lay(2, 2), 103);
        for (int i = 0; i < 3; i++) due("yard(" + i + ", 0)", x.yard(i, 0), 0);
        due("HOURS in all", x.told(7), 112);
    }

    // ---- promises 9 to 12

    @Says("Promise 9: NONE: not so many (i below 0, too).")
    static void placesThatThereAreNot() {
        LoftGraves x = Cases.told(Cases.SEVEN_DEAD);
        for (int i : new int[] {MIN, -2, -1, 7, 8, MAX}) due("order(" + i + ")", x.order(i), NONE);
        due("order(0)", x.order(0), 0);
        due("order(6)", x.order(6), 6);
        x.knock(0);
        due("order(5)", x.order(5), 6);
        due("order(6), one less", x.order(6), NONE);
        due("order(0) without DEAD", new LoftGraves().order(0), NONE);
    }

    @Says("Promise 10: RANK becomes v (0 .. 99)")
    static void boundsOfALetter() {
        LoftGraves x = Cases.told(TWO);
        Cases.refused(x, OUTSIDE, "letter(0, -1)", () -> x.letter(0, -1));
        Cases.refused(x, OUTSIDE, "letter(0, 100)", () -> x.letter(0, 100));
        for (int v : new int[] {MIN, MAX}) due("letter(0, " + v + ")", x.letter(0, v), OUTSIDE);
        due("letter(0, 0)", x.letter(0, 0), 5);
        due("letter(0, 99)", x.letter(0, 99), 0);
        due("letter(0, 99)", x.letter(0, 99), 99);
        due("dead(0, 0)", x.dead(0, 0), 99);
        due("the other", x.dead(1, 0), 7);
    }

    @Says("Promise 10: what it was. UNKNOWN, OUTSIDE.")
    static void letterToNobody() {
        LoftGraves x = Cases.told(Cases.SEVEN_DEAD);
        for (int d : new int[] {MIN, -1, 7, MAX}) due("letter(" + d + ", 5)", x.letter(d, 5), UNKNOWN);
        due("letter(7, 100)", x.letter(7, 100), UNKNOWN);
        due("letter(6, 9)", x.letter(6, 9), 5);
    }

    @Says("Promise 10: A LETTER: RANK becomes v (0 .. 99): what it was.")
    static void letterToWhoLeftTheLoft() {
        LoftGraves x = Cases.told(TWO);
        x.lay(0, 0);
        x.knock(1);
        due("to the laid one", x.letter(0, 1), 5);
        due("to the one that KNOCKED", x.letter(1, 2), 7);
        due("dead(0, 0)", x.dead(0, 0), 1);
        due("dead(1, 0)", x.dead(1, 0), 2);
    }

    @Says("Promise 11: GIFTS n more (1 .. 999;")
    static void boundsOfAGift() {
        LoftGraves x = Cases.told(TWO);
        Cases.refused(x, OUTSIDE, "gift(0, 0)", () -> x.gift(0, 0));
        Cases.refused(x, OUTSIDE, "gift(0, 1000)", () -> x.gift(0, 1000));
        for (int n : new int[] {MIN, -1, MAX}) due("gift(0, " + n + ")", x.gift(0, n), OUTSIDE);
        due("gift(0, 1)", x.gift(0, 1), 1);
        due("gift(0, 999)", x.gift(0, 999), 1000);
        due("the other", x.dead(1, 3), 0);
    }

    @Says("Promise 11: 9999 at most in all): how many then.")
    static void gifts9999AtMost() {
        LoftGraves x = Cases.told(TWO);
        Cases.give(x, 0, 9000);
        x.gift(0, 998);
        due("9998 and 1", x.gift(0, 1), 9999);
        due("9999 and 1", x.gift(0, 1), 9999);
        due("9999 and 999", x.gift(0, 999), 9999);
        due("dead(0, 3)", x.dead(0, 3), 9999);
        due("9999 and 0", x.gift(0, 0), OUTSIDE);
        due("9999 and 1000", x.gift(0, 1000), OUTSIDE);
        Cases.give(x, 1, 9001);
        due("9001 and 999", x.gift(1, 999), 9999);
        due("dead(1, 3)", x.dead(1, 3), 9999);
    }

    @Says("Promise 11: UNKNOWN, OUTSIDE, NOT: laid, or it KNOCKED.")
    static void giftsToWhoLeftTheLoft() {
        LoftGraves x = Cases.told(TWO);
        x.gift(0, 3);
        x.lay(0, 0);
        x.knock(1);
        Cases.refused(x, NOT, "gift(0, 1)", () -> x.gift(0, 1));
        Cases.refused(x, NOT, "gift(1, 999)", () -> x.gift(1, 999));
        for (int d : new int[] {MIN, -1, 2, MAX}) due("gift(" + d + ", 1)", x.gift(d, 1), UNKNOWN);
    }

    @Says("Promise 12: It KNOCKS, and leaves THE LOFT: its place in the ORDER.")
    static void placeOfAKnock() {
        LoftGraves x = Cases.told("dead 7 1 1;dead 9 1 1;dead 8 1 1;");
        due("the last", x.knock(0), 2);
        due("the first", x.knock(1), 0);
        due("alone", x.knock(2), 0);
        due("in THE LOFT", x.told(5), 0);
    }

    @Says("Promise 12: its place in the ORDER.")
    static void placeOfAnUrgentKnock() {
        LoftGraves x = Cases.told("dead 1 0 0;dead 2 0 0;");
        x.rats(8, 10);
        x.seed(Cases.seedForRats(0, 1));
        x.rats(1, 1);
        due("the URGENT one of less RANK", x.knock(0), 0);
    }

    @Says("Promise 12: UNKNOWN, NOT: it is not in THE LOFT.")
    static void noKnock() {
        LoftGraves x = Cases.told(TWO);
        for (int d : new int[] {MIN, -1, 2, MAX}) due("knock(" + d + ")", x.knock(d), UNKNOWN);
        x.lay(0, 0);
        x.knock(1);
        Cases.refused(x, NOT, "knock of the laid one", () -> x.knock(0));
        Cases.refused(x, NOT, "knock again", () -> x.knock(1));
    }

    // ---- promises 13 to 16

    @Says("2 THE LOFT: A DAY of HEAT h (-9 .. 9)")
    static void boundsOfHeat() {
        LoftGraves x = Cases.told("sun 1 0;yard 50;dead 1 1 1;");
        Cases.refused(x, OUTSIDE, "day(-10)", () -> x.day(-10));
        Cases.refused(x, OUTSIDE, "day(10)", () -> x.day(10));
        for (int heat : new int[] {MIN, MAX}) due("day(" + heat + ")", x.day(heat), OUTSIDE);
        int[] frost = {59, 50, 51, 51, 50};
        int[] heats = {-9, 9, -1, 0, 1};
        for (int k = 0; k < 5; k++) {
            due("day(" + heats[k] + ")", x.day(heats[k]), 0);
            due("yard(0, 0) behind " + heats[k], x.yard(0, 0), frost[k]);
        }
        due("days WAITED", x.dead(0, 1), 6);
    }

    @Says("Promise 13: A DAY: SOFT YARDS then (a SET of YARDS). OUTSIDE.")
    static void softYardsThen() {
        LoftGraves x = Cases.told("sun 1 0;" + "yard 1;".repeat(8) + "dead 1 1 1;");
        due("none", x.day(0), 0);
        x.lay(0, 7);
        due("also where somebody lies", x.day(0), 128);
        due("all", x.day(1), 255);
        due("that one alone", x.day(-1), 128);
    }

    @Says("Promise 14: n NIGHTS (1 .. 99) of RATS")
    static void boundsOfNights() {
        LoftGraves x = Cases.told("yard 0;dead 1 1 1;");
        Cases.refused(x, OUTSIDE, "rats(0, 5)", () -> x.rats(0, 5));
        Cases.refused(x, OUTSIDE, "rats(100, 5)", () -> x.rats(100, 5));
        for (int n : new int[] {MIN, -1, MAX}) due("rats(" + n + ", 5)", x.rats(n, 5), OUTSIDE);
        due("rats(1, 10)", x.rats(1, 10), 0);
        due("one NIGHT", x.dead(0, 4), 8);
        due("rats(99, 0)", x.rats(99, 0), 0);
        due("a hundred DRAWS", x.seed(0), Cases.next(0, 100));
    }

    @Says("Promise 14: n NIGHTS (1 .. 99) of RATS: who has no BOARDS in THE LOFT then (a SET). OUTSIDE.")
    static void boundsOfRats() {
        LoftGraves x = Cases.told("yard 0;dead 1 1 1;");
        Cases.refused(x, OUTSIDE, "rats(1, -1)", () -> x.rats(1, -1));
        Cases.refused(x, OUTSIDE, "rats(1, 11)", () -> x.rats(1, 11));
        for (int r : new int[] {MIN, MAX}) due("rats(1, " + r + ")", x.rats(1, r), OUTSIDE);
        due("rats(1, 0)", x.rats(1, 0), 0);
        due("rats(9, 10)", x.rats(9, 10), 1);
    }

    @Says("Promise 14: who has no BOARDS in THE LOFT then (a SET)")
    static void withoutBoardsInTheLoftAlone() {
        LoftGraves x = Cases.told("yard 0;dead 1 1 1;dead 1 1 1;dead 1 1 1;");
        due("all", x.rats(9, 10), 7);
        x.lay(0, 0);
        due("but the laid one", x.rats(1, 0), 6);
        x.knock(1);
        due("and the one that KNOCKED", x.rats(1, 0), 4);
        x.knock(2);
        due("nobody", x.rats(1, 10), 0);
        due("a DRAW for nobody", x.rats(1, 10), 0);
        due("dead(0, 4)", x.dead(0, 4), 0);
    }

    @Says("Promise 15: UNKNOWN, NOT: not in THE LOFT; somebody lies there.")
    static void cannotBeLaid() {
        LoftGraves x = Cases.told("yard 3;yard 7;dead 5 6 1;dead 7 8 2;dead 1 1 1;");
        x.lay(0, 0);
        x.knock(1);
        Cases.refused(x, NOT, "the laid one elsewhere", () -> x.lay(0, 1));
        Cases.refused(x, NOT, "the one that KNOCKED", () -> x.lay(1, 1));
        Cases.refused(x, NOT, "where somebody lies", () -> x.lay(2, 0));
        due("the laid one where it lies", x.lay(0, 0), NOT);
        due("the free YARD", x.lay(2, 1), 11);
    }

    @Says("Promise 15: UNKNOWN, NOT: not in THE LOFT; somebody lies there.")
    static void layUnknown() {
        LoftGraves x = Cases.told(Cases.EIGHT_YARDS + Cases.SEVEN_DEAD);
        for (int d : new int[] {MIN, -1, 7, MAX}) due("lay(" + d + ", 0)", x.lay(d, 0), UNKNOWN);
        for (int i : new int[] {MIN, -1, 8, MAX}) due("lay(0, " + i + ")", x.lay(0, i), UNKNOWN);
        due("lay(6, 7)", x.lay(6, 7), 4);
        due("the laid one in no YARD", x.lay(6, 8), UNKNOWN);
        due("nobody where somebody lies", x.lay(7, 7), UNKNOWN);
        due("laid", x.told(6), 64);
    }

    @Says("Promise 16: n SPRING days (1 .. 99), k SPADES (0 .. 9)")
    static void boundsOfSpring() {
        LoftGraves x = Cases.told("yard 0;dead 1 1 1;");
        for (int n : new int[] {MIN, -1, 0, 100, MAX}) due("spring(" + n + ", 1)", x.spring(n, 1), OUTSIDE);
        for (int k : new int[] {MIN, -1, 10, MAX}) due("spring(1, " + k + ")", x.spring(1, k), OUTSIDE);
        Cases.refused(x, OUTSIDE, "spring(0, 9)", () -> x.spring(0, 9));
        Cases.refused(x, OUTSIDE, "spring(1, 10)", () -> x.spring(1, 10));
        due("spring(1, 0)", x.spring(1, 0), 0);
        due("one day", x.dead(0, 1), 2);
        due("two DRAWS", Cases.seedOf(x), Cases.next(0, 2));
        due("spring(99, 0)", x.spring(99, 0), 0);
        due("ninety-nine days", x.dead(0, 1), 101);
        due("two DRAWS each", Cases.seedOf(x), Cases.next(0, 200));
    }

    @Says("Promise 16: k SPADES (0 .. 9)")
    static void noneOrNineSpades() {
        String soft = "sun 20 0;" + Cases.EIGHT_YARDS + Cases.SEVEN_DEAD;
        for (int k = 0; k <= 9; k++) {
            LoftGraves x = Cases.told(soft);
            x.seed(Cases.seedFor(3, 0));
            due("spring(1, " + k + ")", x.spring(1, k), Math.min(7, k));
        }
    }

    @Says("Promise 16: how many are laid in all. OUTSIDE.")
    static void laidInAll() {
        LoftGraves x = Cases.told("yard 0;yard 0;yard 99;dead 1 1 1;dead 1 1 1;");
        x.lay(0, 2);
        x.seed(Cases.seedFor(3, 0));
        due("one more", x.spring(1, 1), 2);
        due("nobody more", x.spring(1, 9), 2);
    }
}
