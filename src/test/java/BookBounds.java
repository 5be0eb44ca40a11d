import java.util.List;
import java.util.function.IntSupplier;

/** Boundary cases of THE BOOK, BY DRAWS, IMAGES: promises 28 to 33. */
public final class BookBounds {
    private static final int NONE = Cases.NONE, UNKNOWN = Cases.UNKNOWN, OUTSIDE = Cases.OUTSIDE, NOT = Cases.NOT, FULL = Cases.FULL;
    private static final int MIN = Cases.MIN, MAX = Cases.MAX;
    private static final String THREE = "yard 0;yard 5;yard 0;yard 0;dead 50 3 1;dead 60 9 2;dead 10 100 1;";

    public static void main(String[] args) {
        Cases.runAll(BookBounds.class, 28, 33);
    }

    private static void due(String call, long got, long want) {
        Cases.due(call, got, want);
    }

    private static void judged(LoftGraves x, int want, int... layings) {
        x.tear();
        for (int k = 0; k + 1 < layings.length; k += 2) x.write(layings[k], layings[k + 1]);
        due("judge()", x.judge(), want);
    }

    // ---- THE BOOK

    @Says("3 LAYING: THE BOOK is a row of layings (20 at most: DEAD, YARD)")
    static void twentyLayings() {
        LoftGraves x = Cases.told(THREE);
        for (int k = 1; k <= 20; k++) due("write(1, 0)", x.write(1, 0), k);
        Cases.refused(x, FULL, "the 21st", () -> x.write(1, 0));
        due("told(8)", x.told(8), 20);
        due("unknown one in a full BOOK", x.write(3, 0), UNKNOWN);
        due("unknown YARD in a full BOOK", x.write(0, 4), UNKNOWN);
        due("tear()", x.tear(), 20);
        due("again the first", x.write(1, 0), 1);
    }

    @Says("3 LAYING: tried one behind the other from now: WRONG")
    static void wrongFromNow() {
        LoftGraves x = Cases.told(THREE);
        judged(x, 1, 1, 0, 1, 2);
        judged(x, NONE, 1, 0, 0, 2);
        x.lay(1, 0);
        due("the first is laid now", x.judge(), 0);
        judged(x, NONE, 0, 2, 2, 3);
        x.letter(2, 99);
        due("less RANK now", x.judge(), 0);
        judged(x, NONE, 2, 2, 0, 3);
        x.day(-1);
        due("no more SOFT", x.judge(), 0);
    }

    @Says("3 LAYING: the first that cannot be (not in THE LOFT, somebody lies there, not SOFT)")
    static void whatCannotBe() {
        LoftGraves x = Cases.told(THREE);
        judged(x, 0, 1, 1);
        judged(x, 1, 1, 0, 0, 1);
        judged(x, 1, 1, 0, 0, 0);
        judged(x, 1, 1, 0, 1, 2);
        judged(x, 2, 1, 0, 0, 2, 2, 2);
        judged(x, 2, 1, 0, 0, 2, 2, 1);
        judged(x, NONE, 1, 0, 0, 2, 2, 3);
        judged(x, 3, 1, 0, 0, 2, 2, 3, 2, 3);
        x.lay(0, 2);
        judged(x, 0, 0, 0);
        judged(x, 0, 1, 2);
        x.knock(1);
        judged(x, 0, 1, 0);
        judged(x, NONE, 2, 0);
    }

    @Says("3 LAYING: not SOFT")
    static void oneInchIsNotSoft() {
        LoftGraves x = Cases.told("sun 1 0;yard 1;dead 1 1 1;");
        judged(x, 0, 0, 0);
        x.day(1);
        judged(x, NONE, 0, 0);
    }

    @Says("3 LAYING: or that is not the first of the ORDER; NONE.")
    static void notTheFirst() {
        LoftGraves x = Cases.told(THREE);
        judged(x, 0, 0, 0);
        judged(x, 0, 2, 0);
        judged(x, 1, 1, 0, 2, 2);
        LoftGraves y = Cases.told("yard 0;yard 0;dead 1 0 0;dead 2 0 0;");
        y.rats(8, 10);
        y.seed(Cases.seedForRats(0, 1));
        y.rats(1, 1);
        judged(y, NONE, 0, 0, 1, 1);
        judged(y, 0, 1, 0);
    }

    @Says("3 LAYING: or that is not the first of the ORDER; NONE.")
    static void theFirstOfThoseWithTheLeast() {
        String least = "yard 0;yard 0;dead 0 0 9;dead 0 0 9;";
        for (String custom : new String[] {"", "rank;", "waits;", "gifts;", "kin;", "rank;waits;gifts;kin;", "kin;gifts;waits;rank;"}) {
            LoftGraves x = Cases.ruled(least, custom);
            judged(x, NONE, 0, 0, 1, 1);
            judged(x, 0, 1, 0);
            x.seed(Cases.seedFor(3, 9));
            due("spring(1, 1) by '" + custom + "'", x.spring(1, 1), 1);
            due("who is laid", x.yard(0, 1), 0);
        }
    }

    @Says("3 LAYING: or that is not the first of the ORDER; NONE.")
    static void theFirstOfThoseWithTheMost() {
        LoftGraves x = Cases.ruled("yard 0;yard 0;dead 99 999 0;dead 99 999 0;", "gifts;rank;waits;kin;");
        for (int k = 0; k < 91; k++) x.spring(99, 0);
        for (int d = 0; d < 2; d++) Cases.give(x, d, 9999);
        Cases.days(x, 20, 9);
        x.letter(0, 98);
        judged(x, NONE, 1, 0, 0, 1);
        x.letter(0, 99);
        judged(x, NONE, 0, 0, 1, 1);
        judged(x, 0, 1, 0);
    }

    @Says("Promise 28: A laying behind THE BOOK: how many. UNKNOWN, FULL (20).")
    static void writeUnknown() {
        LoftGraves x = Cases.told(Cases.EIGHT_YARDS + Cases.SEVEN_DEAD);
        for (int d : new int[] {MIN, -1, 7, MAX}) due("write(" + d + ", 0)", x.write(d, 0), UNKNOWN);
        for (int i : new int[] {MIN, -1, 8, MAX}) due("write(0, " + i + ")", x.write(0, i), UNKNOWN);
        due("told(8)", x.told(8), 0);
        due("write(6, 7)", x.write(6, 7), 1);
        due("write(0, 0)", x.write(0, 0), 2);
    }

    @Says("Promise 28: A laying behind THE BOOK: how many.")
    static void whatCannotBeIsWritten() {
        LoftGraves x = Cases.told(THREE);
        x.lay(0, 0);
        x.knock(1);
        due("the laid one", x.write(0, 2), 1);
        due("the one that KNOCKED", x.write(1, 2), 2);
        due("where somebody lies, in FROST", x.write(2, 0), 3);
        due("the same again", x.write(2, 0), 4);
    }

    @Says("Promise 29: THE BOOK is empty: how many layings it had.")
    static void tearEmptyAndFull() {
        LoftGraves x = Cases.told(THREE);
        due("an empty one", x.tear(), 0);
        x.write(0, 0);
        due("of one", x.tear(), 1);
        due("told(8)", x.told(8), 0);
        due("again", x.tear(), 0);
        due("judge()", x.judge(), NONE);
        for (int k = 0; k < 20; k++) x.write(0, 0);
        due("a full one", x.tear(), 20);
        due("told(8)", x.told(8), 0);
    }

    @Says("Promise 30: WRONG; NONE.")
    static void judgeEmptyAndFull() {
        LoftGraves x = Cases.told(Cases.EIGHT_YARDS + Cases.SEVEN_DEAD);
        due("an empty BOOK", x.judge(), NONE);
        for (int d = 0; d < 7; d++) x.write(d, 7 - d);
        Cases.asked(x, NONE, "all seven", () -> x.judge());
        for (int k = 7; k < 20; k++) x.write(0, 0);
        due("the eighth", x.judge(), 7);
        due("without DEAD", new LoftGraves().judge(), NONE);
    }

    // ---- BY DRAWS

    @Says("3 LAYING: (0 at first:")
    static void seedAtFirst() {
        due("seed(5)", new LoftGraves().seed(5), 0);
        LoftGraves x = Cases.told("dead 1 1 1;");
        due("the DRAW of 0", x.rats(1, 1), 0);
        due("BOARDS", x.dead(0, 4), 8);
        due("the SEED then", x.seed(0), 12345);
    }

    @Says("3 LAYING: each DRAW it becomes it times 1103515245 and 12345, left over by 2 to the 31")
    static void seedWrapsAround() {
        long[][] steps = {{0, 12345}, {1, 1103527590}, {2, 59559187}, {65535, 212263372}, {1 << 30, 1073754169}, {MAX - 1, 2087949151L}, {MAX, 1043980748}};
        for (long[] step : steps) {
            long plain = (step[0] * 1103515245L + 12345L) % 2147483648L;
            due("the step of the test, from " + step[0], plain == step[1] ? 1 : plain, 1);
            LoftGraves x = Cases.told("dead 1 1 1;");
            x.seed((int) step[0]);
            x.rats(1, 0);
            due("the SEED behind " + step[0], x.seed(0), step[1]);
        }
    }

    @Says("3 LAYING: the DRAW of n is it / 65536, left over by n)")
    static void drawsOfTenAndOfTwelve() {
        for (int seed : new int[] {0, 1, 7, 65536, 99999, MAX}) {
            LoftGraves x = Cases.told("sun 1 0;yard 50;dead 1 1 1;");
            x.seed(seed);
            x.spring(1, 0);
            int heat = Cases.drawn(Cases.next(seed), 12) - 3;
            due("FROST behind " + seed, x.yard(0, 0), 50 - heat);
            due("BOARDS behind " + seed, x.dead(0, 4), Cases.drawn(Cases.next(seed, 2), 10) < 2 ? 8 : 9);
        }
    }

    @Says("3 LAYING: HEAT: a DRAW of 12 less 3")
    static void leastAndMostHeat() {
        int[] frost = {53, 52, 51, 50, 49, 48, 47, 46, 45, 44, 43, 42};
        for (int draw = 0; draw < 12; draw++) {
            LoftGraves x = Cases.told("sun 1 0;yard 50;yard 98;");
            x.seed(Cases.seedFor(draw, 9));
            x.spring(1, 0);
            due("FROST behind a DRAW " + draw, x.yard(0, 0), frost[draw]);
            due("FROST of 98 behind it", x.yard(1, 0), Math.min(99, frost[draw] + 48));
        }
    }

    @Says("3 LAYING: then RATS of 2")
    static void ratsOfTwo() {
        for (int draw = 0; draw < 10; draw++) {
            LoftGraves x = Cases.told("dead 1 1 1;");
            x.seed(Cases.seedFor(3, draw));
            x.spring(1, 0);
            due("BOARDS behind a DRAW " + draw, x.dead(0, 4), draw < 2 ? 8 : 9);
        }
    }

    @Says("3 LAYING: then k SPADES: the first of the ORDER is LAID in the least free SOFT YARD")
    static void theFirstInTheLeastYard() {
        LoftGraves x = Cases.told("sun 1 0;yard 0;yard 99;yard 0;yard 0;dead 5 1 1;dead 9 1 1;dead 7 1 1;");
        x.lay(0, 0);
        x.seed(Cases.seedFor(3, 9));
        due("spring(1, 1)", x.spring(1, 1), 2);
        due("the first", x.dead(1, 5), 2);
        due("not the second", x.dead(2, 5), NONE);
        due("HOURS", x.told(7), 8);
    }

    @Says("3 LAYING: the first of the ORDER is LAID")
    static void theUrgentOneFirst() {
        LoftGraves x = Cases.told("yard 0;dead 1 0 0;dead 2 0 0;");
        x.rats(8, 10);
        x.seed(Cases.seedForRats(0, 1));
        due("0 is URGENT", x.rats(1, 1), 1);
        x.seed(Cases.seedFor(3, 9));
        due("spring(1, 1)", x.spring(1, 1), 1);
        due("the URGENT one", x.yard(0, 1), 0);
    }

    @Says("3 LAYING: a SPRING day: HEAT: a DRAW of 12 less 3; then RATS of 2; then k SPADES")
    static void heatThenRatsThenSpades() {
        LoftGraves x = Cases.told("sun 1 0;yard 8;dead 5 1 1;");
        x.seed(Cases.seedFor(11, 0));
        due("thawed on that day", x.spring(1, 1), 1);
        due("WAITED that day", x.dead(0, 1), 2);
        due("RATS ahead of the SPADES", x.dead(0, 4), 8);
        due("HOURS", x.told(7), 4);
        LoftGraves y = Cases.told("sun 1 0;yard 9;dead 5 1 1;");
        y.seed(Cases.seedFor(11, 0));
        due("an inch too much", y.spring(1, 9), 0);
        LoftGraves z = Cases.told("yard 0;dead 5 1 1;");
        z.seed(Cases.seedFor(2, 0));
        due("frozen on that day", z.spring(1, 9), 0);
    }

    @Says("3 LAYING: k times, as long as there are both.")
    static void asLongAsThereAreBoth() {
        int mild = Cases.seedFor(3, 9);
        LoftGraves x = Cases.told("yard 0;yard 0;yard 1;dead 1 1 1;dead 2 1 1;dead 3 1 1;");
        x.seed(mild);
        due("YARDS run out", x.spring(1, 9), 2);
        due("who is left", x.told(5), 1);
        LoftGraves y = Cases.told("yard 0;yard 0;yard 0;dead 1 1 1;dead 2 1 1;");
        y.seed(mild);
        due("DEAD run out", y.spring(1, 9), 2);
        due("who lies in the last", y.yard(2, 1), NONE);
        LoftGraves z = Cases.told("yard 0;yard 0;yard 0;dead 1 1 1;dead 2 1 1;dead 3 1 1;");
        z.seed(mild);
        due("SPADES run out", z.spring(1, 2), 2);
    }

    @Says("Promise 31: THE SEED becomes v (0 .. 2147483647): what it was. OUTSIDE.")
    static void boundsOfTheSeed() {
        LoftGraves x = Cases.told("dead 1 1 1;");
        due("seed(MAX)", x.seed(MAX), 0);
        for (int v : new int[] {MIN, -2, -1}) {
            due("seed(" + v + ")", x.seed(v), OUTSIDE);
        }
        Cases.refused(x, OUTSIDE, "seed(-1)", () -> x.seed(-1));
        due("seed(0)", x.seed(0), MAX);
        due("seed(0)", x.seed(0), 0);
    }

    // ---- IMAGES

    @Says("Promise 32: IMAGE i becomes what is so: 1. UNKNOWN.")
    static void keepUnknown() {
        LoftGraves x = Cases.told(THREE);
        for (int i : new int[] {MIN, -1, 2, MAX}) due("keep(" + i + ")", x.keep(i), UNKNOWN);
        due("goBack(0)", x.goBack(0), NOT);
        due("goBack(1)", x.goBack(1), NOT);
        Cases.asked(x, 1, "keep(0)", () -> x.keep(0));
        due("the other is not kept", x.goBack(1), NOT);
        Cases.asked(x, 1, "keep(1)", () -> x.keep(1));
    }

    @Says("Promise 32: IMAGE i becomes what is so")
    static void keptTwice() {
        for (int i = 0; i < 2; i++) {
            LoftGraves x = Cases.told(THREE);
            x.keep(i);
            x.letter(0, 1);
            x.keep(i);
            x.letter(0, 2);
            x.goBack(i);
            due("the later one", x.dead(0, 0), 1);
        }
    }

    @Says("Promise 33: What is so becomes IMAGE i: 1. UNKNOWN, NOT: it was not kept.")
    static void goBackUnknownOrNot() {
        LoftGraves x = Cases.told(THREE);
        for (int i : new int[] {MIN, -1, 2, MAX}) due("goBack(" + i + ")", x.goBack(i), UNKNOWN);
        Cases.refused(x, NOT, "goBack(0)", () -> x.goBack(0));
        x.keep(1);
        x.lay(0, 0);
        Cases.refused(x, NOT, "goBack(0)", () -> x.goBack(0));
        due("goBack(1)", x.goBack(1), 1);
        due("laid", x.told(6), 0);
    }

    @Says("Promise 33: What is so becomes IMAGE i: 1.")
    static void backTwiceAndApart() {
        LoftGraves x = Cases.told(THREE);
        x.keep(0);
        x.letter(0, 1);
        x.keep(1);
        x.letter(0, 2);
        x.goBack(0);
        due("IMAGE 0", x.dead(0, 0), 50);
        x.letter(0, 3);
        x.goBack(0);
        due("IMAGE 0 is not what became of it", x.dead(0, 0), 50);
        x.goBack(1);
        due("IMAGE 1", x.dead(0, 0), 1);
        due("goBack(1) again", x.goBack(1), 1);
        due("IMAGE 1", x.dead(0, 0), 1);
    }

    @Says("Promise 33: What is so becomes IMAGE i: 1.")
    static void imageOfTheEmptyParish() {
        LoftGraves x = new LoftGraves();
        due("keep(0)", x.keep(0), 1);
        x.seed(5);
        due("goBack(0)", x.goBack(0), 1);
        due("THE SEED", x.seed(0), 0);
        due("YARDS", x.told(0), 0);
    }

    @Says("3 LAYING: IMAGES 0, 1 keep FROST, who lies where, RANKS, days WAITED, GIFTS, BOARDS, who KNOCKED, HOURS, LABELS, MARKS, THE SEED")
    static void eachOfWhatIsKept() {
        for (int i = 0; i < 2; i++) {
            LoftGraves x = Cases.told(THREE);
            back(x, i, "FROST", () -> x.day(-3), () -> x.yard(1, 0));
            back(x, i, "days WAITED", () -> x.day(0), () -> x.dead(0, 1));
            back(x, i, "who lies where", () -> x.lay(0, 0), () -> x.yard(0, 1));
            back(x, i, "YARD", () -> x.lay(0, 1), () -> x.dead(0, 5));
            back(x, i, "HOURS", () -> x.lay(2, 1), () -> x.told(7));
            back(x, i, "RANKS", () -> x.letter(2, 11), () -> x.dead(2, 0));
            back(x, i, "GIFTS", () -> x.gift(2, 11), () -> x.dead(2, 3));
            back(x, i, "BOARDS", () -> x.rats(1, 10), () -> x.dead(2, 4));
            back(x, i, "who KNOCKED", () -> x.knock(2), () -> x.dead(2, 6));
            back(x, i, "LABELS", () -> x.label(2, 0), () -> x.dead(2, 7));
            back(x, i, "MARKS", () -> x.mark(2, 3), () -> x.dead(2, 8));
            back(x, i, "THE SEED", () -> x.seed(9), () -> Cases.seedOf(x));
        }
    }

    /** The change must be one that can be asked for, else its coming back would show nothing. */
    private static void back(LoftGraves x, int i, String what, IntSupplier change, IntSupplier ask) {
        x.keep(i);
        int was = ask.getAsInt();
        change.getAsInt();
        int then = ask.getAsInt();
        due(what + " is otherwise", then != was ? 1 : 0, 1);
        x.goBack(i);
        due(what + " in IMAGE " + i, ask.getAsInt(), was);
    }

    @Says("3 LAYING: IMAGES 0, 1 keep")
    static void allOfAnImage() {
        LoftGraves x = Cases.told(THREE);
        x.gift(0, 3);
        x.lay(1, 1);
        x.knock(2);
        x.label(0, 2);
        x.mark(1, 4);
        x.rats(3, 5);
        x.keep(1);
        List<Integer> was = Cases.all(x);
        x.lay(0, 0);
        x.letter(0, 9);
        x.spring(9, 9);
        x.label(0, 1);
        x.mark(1, 2);
        x.goBack(1);
        Cases.alike("behind goBack(1)", was, Cases.all(x));
    }

    @Says("3 LAYING: CUSTOM stays.")
    static void customStays() {
        LoftGraves x = Cases.told(THREE);
        x.keep(0);
        Cases.custom(x, "kin;waits;");
        x.goBack(0);
        due("clauses", x.told(9), 2);
        Cases.inOrder(x, 2, 0, 1);
        Cases.custom(x, "");
        x.goBack(0);
        due("no clauses", x.told(9), 0);
        Cases.inOrder(x, 0, 1, 2);
    }

    @Says("3 LAYING: IMAGES 0, 1 keep")
    static void whatIsNotKept() {
        LoftGraves x = Cases.told(THREE);
        x.keep(0);
        x.write(1, 0);
        Cases.custom(x, "x");
        Cases.feed(x, "ab");
        x.goBack(0);
        due("THE BOOK stays", x.told(8), 1);
        due("THE TEXT stays", x.told(2), 2);
        due("the FAULT stays", x.fault(), 0);
    }
}
