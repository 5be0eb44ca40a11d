/** For each promise of ../shared/DOC.md what it answers to ordinary, to edging and to wrong calls. */
public final class PromisesTest {
    private static final int NONE = LoftGraves.NONE;
    private static final int UNKNOWN = LoftGraves.UNKNOWN;
    private static final int OUTSIDE = LoftGraves.OUTSIDE;
    private static final int NOT = LoftGraves.NOT;
    private static final int FULL = LoftGraves.FULL;
    private static final int MIN = Integer.MIN_VALUE;
    private static final int MAX = Integer.MAX_VALUE;

    private static final String THREE = "yard 0;yard 5;yard 0;dead 50 3 1;dead 60 9 2;dead 10 100 1;";

    private static int wrong = 0;

    private static void due(String what, long got, long want) {
        if (got == want) return;
        wrong++;
        System.out.println(what + ": answered " + got + ", due is " + want);
    }

    private static void feed(LoftGraves x, String text) {
        for (int i = 0; i < text.length(); i++) x.feed(1, text.charAt(i));
    }

    private static LoftGraves told(String text) {
        LoftGraves x = new LoftGraves();
        feed(x, text);
        int answer = x.parish();
        if (answer < 0) due("the text of a test: " + text, answer, 0);
        return x;
    }

    private static int custom(LoftGraves x, String text) {
        feed(x, text);
        return x.custom();
    }

    /** The fault of a parish: its answer, and its place. */
    private static void parishFault(String text, int answer, int place) {
        LoftGraves x = told("yard 7;");
        feed(x, text);
        due("parish of '" + text + "'", x.parish(), answer);
        due("its place", x.fault(), place);
        due("the text is empty then", x.told(2), 0);
        due("the parish stays", x.yard(0, 0), 7);
    }

    private static void customFault(String text, int answer, int place) {
        LoftGraves x = new LoftGraves();
        custom(x, "gifts;kin;rank;");
        due("custom of '" + text + "'", custom(x, text), answer);
        due("its place", x.fault(), place);
        due("the text is empty then", x.told(2), 0);
        due("the custom stays", x.told(9), 3);
    }

    public static void main(String[] args) {
        newObject();
        feeding();
        parishes();
        parishFaults();
        customs();
        faults();
        tellings();
        yardsAndDead();
        orders();
        letters();
        gifts();
        knocks();
        days();
        ratNights();
        layings();
        springs();
        offences();
        quarrels();
        tried();
        softDays();
        bribes();
        labelsAndMarks();
        fitting();
        mixing();
        churches();
        books();
        seeds();
        images();
        if (wrong != 0) System.exit(1);
        System.out.println("all promises are as due");
    }

    private static void newObject() {
        LoftGraves x = new LoftGraves();
        int[] want = {0, 0, 0, 6, 2, 0, 0, 0, 0, 2};
        for (int what = 0; what < want.length; what++) due("new told " + what, x.told(what), want[what]);
        due("new fault", x.fault(), NONE);
        due("new yard", x.yard(0, 0), UNKNOWN);
        due("new dead", x.dead(0, 0), UNKNOWN);
        due("new order", x.order(0), NONE);
        due("new quarrels", x.quarrels(), 0);
        due("new laying", x.laying(NONE), 0);
        due("new fits", x.fits(), 1);
        due("new mixed", x.mixed(NONE), 0);
        due("new churches", x.churches(0), 0);
        due("new judge", x.judge(), NONE);
        due("new day", x.day(9), 0);
        due("new rats", x.rats(1, 10), 0);
        due("new spring", x.spring(1, 9), 0);
        due("new seed after one spring day", x.seed(0), 12345);
        due("new when", x.when(1, 1), NONE);
    }

    private static void feeding() {
        LoftGraves x = new LoftGraves();
        due("n 0", x.feed(0, 1), OUTSIDE);
        due("n 9", x.feed(9, 1), OUTSIDE);
        due("n least", x.feed(MIN, 1), OUTSIDE);
        due("n most", x.feed(MAX, 1), OUTSIDE);
        due("the lowest bytes alone, the highest first", x.feed(4, 0x1122334479617264L), 4);
        due("eight of them", x.feed(8, 0x2020202020203132L), 12);
        due("one of them", x.feed(1, ';'), 13);
        due("read as one text", x.parish(), 0);
        due("read as one text", x.yard(0, 0), 12);
        for (int k = 1; k <= 50; k++) due("fed", x.feed(8, 0x2020202020202020L), 8 * k);
        due("more than 400", x.feed(1, ' '), FULL);
        due("outside goes first", x.feed(9, ' '), OUTSIDE);
        due("nothing was changed", x.told(2), 400);
        due("blanks alone", x.parish(), 0);
        for (int k = 1; k <= 49; k++) x.feed(8, 0x2020202020202020L);
        due("392 and 4", x.feed(4, 0x20202020L), 396);
        due("396 and 5", x.feed(5, 0x20202020L), FULL);
        due("396 and 4", x.feed(4, 0x20202020L), 400);
        due("a byte above 127", x.custom(), 0);
        x.feed(8, -1L);
        due("a byte above 127", x.custom(), -11);
        due("a byte above 127", x.fault(), 0);
    }

    private static void parishes() {
        LoftGraves x = told("  sun20 0 ;  yard99;yard 0;dead 1 2 3;dead 099 999 9 ;");
        due("S", x.told(3), 20);
        due("F", x.told(4), 0);
        due("yards", x.told(0), 2);
        due("frost", x.yard(0, 0), 99);
        due("rank", x.dead(1, 0), 99);
        due("waits", x.dead(1, 1), 999);
        due("kin", x.dead(1, 2), 9);
        x.write(0, 0);
        x.lay(0, 0);
        x.gift(1, 3);
        x.keep(0);
        x.seed(77);
        custom(x, "kin;");
        feed(x, "yard 1;dead 7 7 7;dead 8 8 8;dead 9 9 9;dead 9 9 9;");
        due("parish again", x.parish(), 4);
        due("S untold", x.told(3), 6);
        due("F untold", x.told(4), 2);
        due("all in the loft", x.told(5), 15);
        due("no hours", x.told(7), 0);
        due("no book", x.told(8), 0);
        due("custom stays", x.told(9), 1);
        due("no gifts", x.dead(1, 3), 0);
        due("image is gone", x.goBack(0), NOT);
        due("seed stays", x.seed(0), 77);
        due("marks of the new ones", x.dead(0, 8), 15);
        due("nobody lies there", x.yard(0, 1), NONE);
        x.lay(0, 0);
        x.keep(1);
        feed(x, "yard");
        due("a fault", x.parish(), -11);
        due("all else is as it was", x.told(6), 1);
        due("image is there", x.goBack(1), 1);
        due("empty text", x.parish(), 0);
        due("no fault", x.fault(), NONE);
        due("no yards", x.told(0), 0);
        due("nobody", x.told(5), 0);
    }

    private static void parishFaults() {
        parishFault(";", -11, 0);
        parishFault("yards 1;", -11, 0);
        parishFault("  yar", -11, 2);
        parishFault("yardz 1;", -11, 0);
        parishFault("ayard 1;", -11, 0);
        parishFault("YARD 1;", -11, 0);
        parishFault("yarD 1;", -11, 0);
        parishFault("yardA 1;", -11, 4);
        parishFault("sunyard 1;", -11, 0);
        parishFault("rank;", -11, 0);
        parishFault("5", -11, 0);
        parishFault("5555", -11, 0);
        parishFault("yard", -11, 4);
        parishFault("yard  ", -11, 6);
        parishFault("yard 1", -11, 6);
        parishFault("yard 1 1;", -11, 7);
        parishFault("yard 1 1111;", -11, 7);
        parishFault("yard 1;;", -11, 7);
        parishFault("yard -1;", -11, 5);
        parishFault("yard yard;", -11, 5);
        parishFault("yard 1 yard", -11, 7);
        parishFault("yard\t1;", -11, 4);
        parishFault("yard 0001;", -12, 5);
        parishFault("yard 99999999999999999999;", -12, 5);
        parishFault("yard 100;", -12, 5);
        parishFault("yard 100", -12, 5);
        parishFault("sun 0 0;", -12, 4);
        parishFault("sun 21 0;", -12, 4);
        parishFault("sun 1 21;", -12, 6);
        parishFault("sun 1 1;yard 1;sun", -13, 15);
        parishFault("sun 1 1;sunny", -11, 8);
        parishFault("dead 100 1 1;", -12, 5);
        parishFault("dead 1 1000 1;", -12, 7);
        parishFault("dead 1 1 10;", -12, 9);
        parishFault("dead 1 1;", -11, 8);
        parishFault("dead 1 1 1 1;", -11, 11);
        parishFault("dead 123 1 10", -12, 5);
        parishFault("yard 1;".repeat(8) + "  yard x", -13, 58);
        parishFault("yard 1;".repeat(8) + "yardx", -11, 56);
        parishFault("dead 1 1 1;".repeat(7) + "dead", -13, 77);
        LoftGraves x = told("yard 1;".repeat(8) + "sun 1 1;" + "dead 1 1 1;".repeat(7));
        due("eight yards", x.told(0), 8);
        due("seven dead", x.told(1), 7);
    }

    private static void customs() {
        LoftGraves x = new LoftGraves();
        due("four clauses", custom(x, "kin;gifts ; waits;rank;"), 4);
        due("told", x.told(9), 4);
        due("none", custom(x, "   "), 0);
        due("told", x.told(9), 0);
        customFault("rank;rank;", -13, 5);
        customFault("kin;rank;waits;gifts; kin", -13, 22);
        customFault("rank", -11, 4);
        customFault("rank ", -11, 5);
        customFault("rank waits;", -11, 5);
        customFault("rank 1;", -11, 5);
        customFault("rank1;", -11, 4);
        customFault("ranks;", -11, 0);
        customFault("wait;", -11, 0);
        customFault("yard 1;", -11, 0);
        customFault("1;", -11, 0);
        customFault("1111;", -11, 0);
        customFault("rank;;", -11, 5);
        customFault("rank;\n", -11, 5);
    }

    private static void faults() {
        LoftGraves x = new LoftGraves();
        feed(x, "yard x;");
        x.parish();
        due("of the parish", x.fault(), 5);
        due("asked again", x.fault(), 5);
        due("custom has none", custom(x, "rank;"), 1);
        due("the latest", x.fault(), NONE);
        due("a fault of custom", custom(x, "rank;x"), -11);
        due("the latest", x.fault(), 5);
        feed(x, "zzz");
        due("feeding changes nothing", x.fault(), 5);
    }

    private static void tellings() {
        LoftGraves x = told("sun 3 4;" + THREE);
        feed(x, "abc");
        x.lay(2, 1);
        x.knock(0);
        x.write(0, 0);
        int[] want = {3, 3, 3, 3, 4, 2, 4, 9, 1, 2};
        for (int what = 0; what < want.length; what++) due("told " + what, x.told(what), want[what]);
        due("told -1", x.told(-1), OUTSIDE);
        due("told 10", x.told(10), OUTSIDE);
        due("told least", x.told(MIN), OUTSIDE);
    }

    private static void yardsAndDead() {
        LoftGraves x = told(THREE);
        due("frost", x.yard(1, 0), 5);
        due("nobody", x.yard(1, 1), NONE);
        x.lay(2, 1);
        due("somebody", x.yard(1, 1), 2);
        due("frost is gone", x.yard(1, 0), 0);
        due("no such yard", x.yard(3, 0), UNKNOWN);
        due("no such yard", x.yard(-1, 5), UNKNOWN);
        due("outside", x.yard(0, 2), OUTSIDE);
        due("outside", x.yard(0, -1), OUTSIDE);
        int[] want = {10, 100, 1, 0, 9, 1, 0, 2, 7};
        for (int what = 0; what < want.length; what++) due("dead " + what, x.dead(2, what), want[what]);
        due("its yard", x.dead(1, 5), NONE);
        x.knock(1);
        due("knocked", x.dead(1, 6), 1);
        due("no such one", x.dead(3, 0), UNKNOWN);
        due("no such one", x.dead(-1, 9), UNKNOWN);
        due("outside", x.dead(0, 9), OUTSIDE);
        due("outside", x.dead(0, -1), OUTSIDE);
    }

    private static void inOrder(String what, LoftGraves x, int... want) {
        for (int i = 0; i < want.length; i++) due(what + ", place " + i, x.order(i), want[i]);
        due(what + ", behind the last", x.order(want.length), NONE);
    }

    private static void orders() {
        LoftGraves x = told("dead 5 5 5;dead 5 6 4;dead 6 5 4;dead 5 5 5;dead 5 6 3;");
        inOrder("rank, waits", x, 2, 1, 4, 0, 3);
        custom(x, "waits;rank;");
        inOrder("waits, rank", x, 1, 4, 2, 0, 3);
        custom(x, "kin;rank;");
        inOrder("kin, rank", x, 4, 2, 1, 0, 3);
        custom(x, "");
        inOrder("no clause", x, 0, 1, 2, 3, 4);
        x.gift(3, 2);
        x.gift(0, 1);
        custom(x, "gifts;kin;");
        inOrder("gifts, kin", x, 3, 0, 4, 1, 2);
        x.knock(3);
        inOrder("one knocked", x, 0, 4, 1, 2);
        due("below 0", x.order(-1), NONE);
        due("least", x.order(MIN), NONE);
        due("most", x.order(MAX), NONE);
        urgentOnes();
    }

    private static void urgentOnes() {
        LoftGraves x = told("dead 90 0 0;dead 1 0 0;dead 2 0 0;dead 3 0 0;");
        int nights = 0;
        while (nights < 60 && x.rats(1, 3) == 0) nights++;
        int urgent = x.rats(1, 0);
        due("somebody is urgent", urgent != 0 ? 1 : 0, 1);
        int first = x.order(0);
        due("the urgent one is first", urgent >> first & 1, 1);
        for (int i = 1; i < 4; i++) {
            due("urgent ones first", (urgent >> x.order(i - 1) & 1) >= (urgent >> x.order(i) & 1) ? 1 : 0, 1);
        }
        x.rats(99, 10);
        inOrder("all are urgent", x, 0, 3, 2, 1);
    }

    private static void letters() {
        LoftGraves x = told(THREE);
        due("what it was", x.letter(0, 99), 50);
        due("what it was", x.letter(0, 0), 99);
        due("what it is", x.dead(0, 0), 0);
        x.lay(1, 0);
        x.knock(2);
        due("of a laid one", x.letter(1, 5), 60);
        due("of one that knocked", x.letter(2, 5), 10);
        due("no such one", x.letter(3, 100), UNKNOWN);
        due("no such one", x.letter(-1, 5), UNKNOWN);
        due("outside", x.letter(0, 100), OUTSIDE);
        due("outside", x.letter(0, -1), OUTSIDE);
        due("nothing was changed", x.dead(0, 0), 0);
    }

    private static void gifts() {
        LoftGraves x = told(THREE);
        due("one", x.gift(0, 1), 1);
        due("more", x.gift(0, 999), 1000);
        due("0", x.gift(0, 0), OUTSIDE);
        due("1000", x.gift(0, 1000), OUTSIDE);
        due("least", x.gift(0, MIN), OUTSIDE);
        due("most", x.gift(0, MAX), OUTSIDE);
        due("no such one", x.gift(3, 0), UNKNOWN);
        due("no such one", x.gift(-1, 1), UNKNOWN);
        for (int k = 2; k <= 10; k++) due("more and more", x.gift(0, 999), 1 + 999 * k);
        due("9998 in all", x.gift(0, 7), 9998);
        x.keep(0);
        due("just 9999 in all", x.gift(0, 1), 9999);
        due("the count stops there", x.gift(0, 1), 9999);
        due("the count stops there", x.gift(0, 999), 9999);
        due("it is kept so", x.dead(0, 3), 9999);
        x.goBack(0);
        due("one more than 9999", x.gift(0, 2), 9999);
        due("outside at the most of all", x.gift(0, 1000), OUTSIDE);
        x.lay(1, 0);
        x.knock(2);
        due("laid", x.gift(1, 1), NOT);
        due("knocked", x.gift(2, 1), NOT);
        due("outside goes first", x.gift(2, 1000), OUTSIDE);
        x.lay(0, 2);
        due("laid with the most of all", x.gift(0, 999), NOT);
        due("nothing was changed", x.dead(0, 3), 9999);
    }

    private static void knocks() {
        LoftGraves x = told(THREE);
        due("the last", x.knock(2), 2);
        due("the first", x.knock(1), 0);
        due("again", x.knock(1), NOT);
        due("left", x.told(5), 1);
        x.lay(0, 0);
        due("laid", x.knock(0), NOT);
        due("no such one", x.knock(3), UNKNOWN);
        due("no such one", x.knock(-1), UNKNOWN);
        LoftGraves y = told("dead 1 1 1;");
        y.rats(50, 10);
        due("boards do not matter when alone", y.knock(0), 0);
    }

    private static void days() {
        LoftGraves x = told("sun 4 3;yard 20;yard 20;yard 20;yard 98;dead 1 1 1;dead 1 1 1;dead 1 1 1;");
        x.lay(1, 2);
        x.knock(2);
        due("a day of 2", x.day(2), 4);
        due("8", x.yard(0, 0), 12);
        due("8 less 3", x.yard(1, 0), 15);
        due("it lies there", x.yard(2, 0), 0);
        due("8 less 9 is nothing", x.yard(3, 0), 98);
        due("waited", x.dead(0, 1), 2);
        due("a laid one does not wait", x.dead(1, 1), 1);
        due("nor one that knocked", x.dead(2, 1), 1);
        due("frost", x.day(-3), 4);
        due("deeper", x.yard(0, 0), 15);
        due("not where one lies", x.yard(2, 0), 0);
        due("99 at most", x.yard(3, 0), 99);
        due("nothing", x.day(0), 4);
        due("nothing", x.yard(0, 0), 15);
        due("waited on all days", x.dead(0, 1), 4);
        due("soft", x.day(4), 5);
        due("no frost below 0", x.yard(0, 0), 0);
        due("frost on soft ground", x.day(-9), 4);
        due("9", x.yard(0, 0), 9);
        due("outside", x.day(10), OUTSIDE);
        due("outside", x.day(-10), OUTSIDE);
        due("nothing was changed", x.dead(0, 1), 6);
        LoftGraves y = told("dead 1 999 1;");
        for (int k = 0; k < 92; k++) y.spring(99, 0);
        due("9999 at most", y.dead(0, 1), 9999);
    }

    private static void ratNights() {
        LoftGraves x = told("dead 1 1 1;dead 1 1 1;dead 1 1 1;");
        x.knock(1);
        long chance = 5;
        x.seed(5);
        int[] boards = {9, 9, 9};
        for (int night = 0; night < 12; night++) {
            for (int d = 0; d < 3; d += 2) {
                chance = (chance * 1103515245L + 12345L) % (1L << 31);
                if (chance / 65536 % 10 < 7) boards[d] = Math.max(0, boards[d] - 1);
            }
        }
        int none = (boards[0] == 0 ? 1 : 0) + (boards[2] == 0 ? 4 : 0);
        due("who has no boards", x.rats(12, 7), none);
        for (int d = 0; d < 3; d++) due("boards", x.dead(d, 4), boards[d]);
        due("the seed", x.seed(0), chance);
        due("of the loft alone", x.rats(99, 10), 5);
        x.lay(0, 0);
        due("r 0 takes none", told("dead 1 1 1;").rats(99, 0), 0);
        due("outside", x.rats(0, 1), OUTSIDE);
        due("outside", x.rats(100, 1), OUTSIDE);
        due("outside", x.rats(1, 11), OUTSIDE);
        due("outside", x.rats(1, -1), OUTSIDE);
        LoftGraves y = told("yard 0;dead 1 1 1;dead 1 1 1;");
        y.rats(9, 10);
        y.lay(0, 0);
        due("a laid one is not told", y.rats(1, 0), 2);
    }

    private static void layings() {
        LoftGraves x = told(THREE);
        due("hours", x.lay(0, 1), 9);
        due("in all", x.told(7), 9);
        due("hours of soft ground", x.lay(1, 0), 4);
        due("in all", x.told(7), 13);
        due("already laid", x.lay(0, 2), NOT);
        due("somebody lies there", x.lay(2, 0), NOT);
        due("no such yard", x.lay(2, 3), UNKNOWN);
        due("no such yard", x.lay(0, -1), UNKNOWN);
        due("no such one", x.lay(3, 0), UNKNOWN);
        due("no such one", x.lay(-1, 0), UNKNOWN);
        x.knock(2);
        due("knocked", x.lay(2, 2), NOT);
        due("who is laid", x.told(6), 3);
    }

    private static void springs() {
        LoftGraves x = told("sun 2 1;yard 9;yard 5;yard 0;dead 5 1 1;dead 6 1 1;dead 7 1 1;");
        x.lay(0, 1);
        x.seed(0);
        due("no spades", x.spring(1, 0), 1);
        // the draws of 12 and of 10 from the seed 0 on: 12345 / 65536 = 0, so the heat is -3
        due("heat", x.yard(0, 0), 12);
        due("heat", x.yard(2, 0), 3);
        due("waited", x.dead(1, 1), 2);
        due("all laid in the end", x.spring(99, 9), 3);
        due("the first in the least soft yard", x.yard(1, 1), 0);
        due("hours", x.told(7), 17);
        due("outside", x.spring(0, 0), OUTSIDE);
        due("outside", x.spring(100, 0), OUTSIDE);
        due("outside", x.spring(1, -1), OUTSIDE);
        due("outside", x.spring(1, 10), OUTSIDE);
        LoftGraves y = told("sun 1 20;yard 0;yard 0;yard 0;dead 5 1 1;dead 6 1 1;dead 7 1 1;");
        int mild = 0;
        while (((mild * 1103515245L + 12345L) % (1L << 31)) / 65536 % 12 != 3) mild++;
        y.seed(mild);
        due("a day of heat 0, two of them", y.spring(1, 2), 2);
        due("the first", y.yard(0, 1), 2);
        due("the second", y.yard(1, 1), 1);
        due("no third", y.yard(2, 1), NONE);
    }

    private static void offences() {
        LoftGraves x = told("yard 0;yard 0;yard 0;yard 0;dead 5 1 1;dead 6 1 2;dead 5 1 3;dead 9 1 4;");
        x.lay(0, 0);
        x.lay(1, 1);
        x.lay(2, 2);
        due("nobody is ahead of it and behind", x.offended(0), 0);
        due("0 lies ahead of 1", x.offended(1), 1);
        due("the last of all", x.offended(2), 0);
        due("not laid", x.offended(3), NOT);
        x.lay(3, 3);
        due("all of them", x.offended(3), 7);
        custom(x, "");
        due("by numbers", x.offended(3), 0);
        due("no such one", x.offended(4), UNKNOWN);
        due("no such one", x.offended(-1), UNKNOWN);
        LoftGraves y = told("yard 0;yard 0;dead 5 1 1;dead 6 1 2;");
        while (y.rats(1, 4) == 0) y.order(0);
        int urgent = y.rats(1, 0) & 1;
        y.lay(0, 0);
        y.lay(1, 1);
        due("boards are not looked at, urgent " + urgent, y.offended(1), 1);
    }

    private static void quarrels() {
        LoftGraves x = told("yard 0;yard 0;yard 0;yard 0;dead 9 1 0;dead 8 1 0;dead 7 1 5;dead 6 1 0;");
        due("nobody laid", x.quarrels(), 0);
        x.lay(0, 0);
        x.lay(1, 1);
        due("side by side", x.quarrels(), 0);
        x.lay(3, 3);
        due("kin 0 are kin, and 1 is not beside 3", x.quarrels(), 2);
        x.lay(2, 2);
        due("no offence", x.quarrels(), 2);
        x.letter(3, 99);
        due("all offend 3", x.quarrels(), 5);
    }

    private static void tried() {
        LoftGraves x = told("yard 0;yard 9;yard 0;yard 0;dead 5 1 1;dead 6 1 2;dead 5 1 3;");
        due("no quarrels", x.laying(NONE), 0);
        due("0", x.laying(0), 2);
        due("1", x.laying(1), 0);
        due("2", x.laying(2), 3);
        x.lay(1, 3);
        due("with those that are laid", x.laying(NONE), 2);
        due("of like ones", x.laying(0), 0);
        due("of like ones", x.laying(2), 2);
        due("not in the loft", x.laying(1), NONE);
        due("no such one", x.laying(3), UNKNOWN);
        due("no such one", x.laying(-2), UNKNOWN);
        due("nothing was changed", x.told(6), 2);
        x.day(-1);
        due("too few", x.laying(NONE), NONE);
        due("too few", x.laying(0), NONE);
        x.knock(0);
        x.knock(2);
        due("nobody in the loft", x.laying(NONE), 0);
        LoftGraves y = told("yard 0;yard 0;yard 0;dead 1 1 1;dead 1 1 2;dead 1 1 1;");
        custom(y, "kin;");
        due("fewest of kin and offence", y.laying(NONE), 0);
        due("0", y.laying(0), 0);
        due("1", y.laying(1), 2);
        due("2", y.laying(2), 1);
        LoftGraves z = told("yard 0;yard 0;dead 1 1 1;dead 9 1 2;dead 1 1 3;");
        z.lay(0, 0);
        z.lay(1, 1);
        z.knock(2);
        due("of those laid alone", z.laying(NONE), 1);
    }

    private static void softDays() {
        LoftGraves x = told("sun 2 1;yard 10;yard 9;yard 0;yard 99;dead 1 1 1;");
        due("now", x.when(1, 1), 0);
        due("yard 0 thaws 2, yard 1 one", x.when(2, 1), 5);
        due("yard 1", x.when(3, 1), 9);
        due("yard 3 never", x.when(4, 1), NONE);
        due("yard 3 by 1 a day", x.when(4, 2), 99);
        due("too many", x.when(5, 9), NONE);
        due("eight", x.when(8, 9), NONE);
        due("outside", x.when(0, 1), OUTSIDE);
        due("outside", x.when(9, 1), OUTSIDE);
        due("outside", x.when(1, 0), OUTSIDE);
        due("outside", x.when(1, 10), OUTSIDE);
        due("fewest", x.span(4, 1, 2, 0), 99);
        due("most", x.span(4, 1, 2, 1), NONE);
        due("fewest", x.span(2, 1, 9, 0), 1);
        due("most", x.span(2, 1, 9, 1), 5);
        due("alike", x.span(2, 5, 5, 0), x.when(2, 5));
        int[][] outside = {{0, 1, 2, 0}, {9, 1, 2, 0}, {1, 0, 2, 0}, {1, 10, 10, 0}, {1, 3, 2, 0}, {1, 1, 10, 0}, {1, 1, 2, 2}, {1, 1, 2, -1}};
        for (int[] a : outside) due("outside", x.span(a[0], a[1], a[2], a[3]), OUTSIDE);
        x.lay(0, 2);
        due("free ones alone", x.when(1, 1), 5);
        due("free ones alone", x.when(3, 1), NONE);
    }

    private static void bribes() {
        LoftGraves x = told("yard 0;dead 1 1 1;dead 1 1 1;dead 1 1 1;dead 1 1 1;");
        custom(x, "gifts;rank;");
        x.gift(0, 999);
        x.gift(1, 10);
        due("first of all, of like ones the least", x.bribe(2, 0), NONE);
        due("second", x.bribe(2, 1), 11);
        due("second", x.bribe(3, 1), 11);
        due("third", x.bribe(3, 2), 1);
        due("fourth", x.bribe(3, 3), 0);
        due("behind the last", x.bribe(3, 6), 0);
        due("1 needs 989 more and 1", x.bribe(1, 0), 990);
        due("0 is the first", x.bribe(0, 0), 0);
        due("nothing was changed", x.dead(1, 3), 10);
        due("outside", x.bribe(0, -1), OUTSIDE);
        due("outside", x.bribe(0, 7), OUTSIDE);
        due("no such one", x.bribe(4, 9), UNKNOWN);
        due("no such one", x.bribe(-1, 0), UNKNOWN);
        x.knock(3);
        due("knocked", x.bribe(3, 0), NOT);
        due("outside goes first", x.bribe(3, 7), OUTSIDE);
        x.lay(2, 0);
        due("laid", x.bribe(2, 0), NOT);
        atMostGifts();
    }

    /** The later one of two alike would need 10000 gifts to be first. */
    private static void atMostGifts() {
        LoftGraves x = told("dead 1 1 1;dead 1 1 1;");
        custom(x, "gifts;");
        for (int d = 0; d < 2; d++) {
            for (int k = 0; k < 10; k++) x.gift(d, 999);
        }
        due("one more", x.bribe(1, 0), 1);
        x.gift(0, 8);
        due("9999 in all", x.bribe(1, 0), 9);
        x.gift(0, 1);
        due("10000 in all", x.bribe(1, 0), NONE);
    }

    private static void labelsAndMarks() {
        LoftGraves x = told(THREE);
        due("what it was", x.label(0, 2), 0);
        due("what it was", x.label(0, 0), 2);
        due("what it is", x.dead(0, 7), 0);
        due("no such coffin", x.label(3, 0), UNKNOWN);
        due("no such coffin", x.label(-1, 0), UNKNOWN);
        due("no such name", x.label(0, 3), UNKNOWN);
        due("no such name", x.label(0, -1), UNKNOWN);
        due("what they were", x.mark(0, 5), 7);
        due("what they were", x.mark(0, 0), 5);
        due("what they are", x.dead(0, 8), 0);
        due("no such bit", x.mark(0, 8), UNKNOWN);
        due("no such bit", x.mark(0, -1), UNKNOWN);
        due("no such bit", x.mark(0, MIN), UNKNOWN);
        due("no such coffin", x.mark(3, 1), UNKNOWN);
        due("no such coffin", x.mark(-1, 1), UNKNOWN);
        due("nothing was changed", x.dead(0, 8), 0);
        due("without dead", new LoftGraves().mark(0, 0), UNKNOWN);
    }

    private static void fitting() {
        LoftGraves x = told("dead 1 1 1;".repeat(7));
        due("all ways", x.fits(), 5040);
        x.mark(6, 1);
        due("one is sure", x.fits(), 720);
        x.mark(0, 3);
        due("two are sure", x.fits(), 120);
        x.mark(1, 0);
        due("none", x.fits(), 0);
        LoftGraves y = told(THREE);
        y.lay(0, 0);
        y.knock(1);
        due("also of those who left the loft", y.fits(), 6);
    }

    private static void mixing() {
        LoftGraves x = told(THREE);
        for (int c = 0; c < 3; c++) x.label(c, 2);
        due("two others", x.mixed(NONE), 2);
        due("of like ones the first", x.mixed(0), 0);
        due("of like ones the first", x.mixed(1), 1);
        due("of like ones the first", x.mixed(2), 2);
        x.mark(2, 3);
        due("still two", x.mixed(NONE), 2);
        due("the lesser name first", x.mixed(0), 0);
        due("the label", x.mixed(1), 2);
        due("what is left", x.mixed(2), 1);
        x.mark(0, 4);
        x.mark(1, 4);
        due("no way", x.mixed(NONE), NONE);
        due("no way", x.mixed(1), NONE);
        due("no such one", x.mixed(3), UNKNOWN);
        due("no such one", x.mixed(-2), UNKNOWN);
        due("labels stay", x.dead(0, 7), 2);
    }

    private static void churches() {
        LoftGraves x = told("yard 0;dead 5 1 1;dead 4 1 1;dead 3 1 1;dead 2 1 1;dead 50 1 1;");
        due("gap", x.churches(0), 36);
        due("the least set", x.churches(1), 15);
        x.lay(4, 0);
        due("gap of the loft", x.churches(0), 0);
        due("the least set: 4 and 3", x.churches(1), 6);
        x.knock(0);
        due("gap", x.churches(0), 1);
        due("the least set: 4", x.churches(1), 2);
        due("outside", x.churches(2), OUTSIDE);
        due("outside", x.churches(-1), OUTSIDE);
        LoftGraves y = told("dead 0 1 1;dead 0 1 1;");
        due("the empty set", y.churches(1), 0);
    }

    private static void books() {
        LoftGraves x = told(THREE);
        due("empty", x.judge(), NONE);
        due("one", x.write(1, 2), 1);
        due("the first of the order", x.judge(), NONE);
        due("two", x.write(0, 2), 2);
        due("somebody would lie there", x.judge(), 1);
        due("tear", x.tear(), 2);
        due("tear again", x.tear(), 0);
        x.write(1, 1);
        due("not soft", x.judge(), 0);
        x.tear();
        x.write(1, 0);
        x.write(1, 2);
        due("not in the loft any more", x.judge(), 1);
        x.tear();
        x.write(1, 0);
        x.write(2, 2);
        due("not the first", x.judge(), 1);
        x.tear();
        x.write(1, 0);
        x.write(0, 2);
        due("right", x.judge(), NONE);
        due("nothing was laid", x.told(6), 0);
        due("no such one", x.write(3, 0), UNKNOWN);
        due("no such one", x.write(-1, 0), UNKNOWN);
        due("no such yard", x.write(0, 3), UNKNOWN);
        due("no such yard", x.write(0, -1), UNKNOWN);
        for (int k = 3; k <= 20; k++) due("written", x.write(2, 1), k);
        due("21", x.write(2, 1), FULL);
        due("unknown goes first", x.write(3, 1), UNKNOWN);
        due("told", x.told(8), 20);
        due("the first wrong one", x.judge(), 2);
        x.knock(1);
        due("knocked", x.judge(), 0);
    }

    private static void seeds() {
        LoftGraves x = told("dead 1 1 1;");
        due("at first", x.seed(MAX), 0);
        due("then", x.seed(0), MAX);
        due("outside", x.seed(-1), OUTSIDE);
        due("outside", x.seed(MIN), OUTSIDE);
        due("nothing was changed", x.seed(1), 0);
        x.rats(1, 0);
        due("a draw", x.seed(0), 1103527590L);
    }

    private static void images() {
        LoftGraves x = told(THREE);
        due("not kept", x.goBack(0), NOT);
        due("not kept", x.goBack(1), NOT);
        x.keep(0);
        int[] was = all(x);
        x.lay(0, 1);
        x.letter(1, 3);
        x.gift(1, 4);
        x.day(-3);
        x.rats(9, 9);
        x.knock(2);
        x.label(1, 0);
        x.mark(1, 2);
        x.seed(99);
        due("keep", x.keep(1), 1);
        int[] is = all(x);
        custom(x, "kin;");
        x.write(0, 0);
        feed(x, "ab");
        due("back", x.goBack(0), 1);
        alike("image 0", all(x), was);
        due("custom stays", x.told(9), 1);
        due("the book stays", x.told(8), 1);
        due("the text stays", x.told(2), 2);
        x.letter(0, 7);
        due("an image is not what becomes of it", x.goBack(1), 1);
        alike("image 1", all(x), is);
        x.goBack(0);
        alike("image 0 again", all(x), was);
        int[] wrongOnes = {-1, 2, MIN, MAX};
        for (int i : wrongOnes) {
            due("no such image", x.keep(i), UNKNOWN);
            due("no such image", x.goBack(i), UNKNOWN);
        }
        LoftGraves y = new LoftGraves();
        due("without a parish", y.keep(1), 1);
        y.seed(5);
        due("without a parish", y.goBack(1), 1);
        due("the seed", y.seed(1), 0);
    }

    /** All that an image keeps; the seed is asked by putting it back. */
    private static int[] all(LoftGraves x) {
        int[] row = new int[40];
        int n = 0;
        for (int i = 0; i < 3; i++) {
            row[n++] = x.yard(i, 0);
            row[n++] = x.yard(i, 1);
            for (int what = 0; what < 9; what++) row[n++] = x.dead(i, what);
        }
        row[n++] = x.told(5);
        row[n++] = x.told(6);
        row[n++] = x.told(7);
        row[n] = x.seed(0);
        x.seed(row[n]);
        return row;
    }

    private static void alike(String what, int[] got, int[] want) {
        for (int i = 0; i < want.length; i++) due(what + ", " + i, got[i], want[i]);
    }
}
