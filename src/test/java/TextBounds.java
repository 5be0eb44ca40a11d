/** Boundary cases of the TERMS, THE PARISH and CUSTOM as texts, and of promises 1 to 8. */
public final class TextBounds {
    private static final int NONE = Cases.NONE, UNKNOWN = Cases.UNKNOWN, OUTSIDE = Cases.OUTSIDE, NOT = Cases.NOT, FULL = Cases.FULL;
    private static final int MIN = Cases.MIN, MAX = Cases.MAX;
    private static final String TWO = "yard 3;yard 0;dead 5 6 1;dead 7 8 2;";

    public static void main(String[] args) {
        Cases.runAll(TextBounds.class, 1, 8);
    }

    private static void due(String call, long got, long want) {
        Cases.due(call, got, want);
    }

    // ---- TERMS

    @Says("The public face: NONE = -1, UNKNOWN = -1000000001, OUTSIDE = -1000000002, NOT = -1000000003, FULL = -1000000004;")
    static void constants() {
        due("NONE", LoftGraves.NONE, -1);
        due("UNKNOWN", LoftGraves.UNKNOWN, -1000000001);
        due("OUTSIDE", LoftGraves.OUTSIDE, -1000000002);
        due("NOT", LoftGraves.NOT, -1000000003);
        due("FULL", LoftGraves.FULL, -1000000004);
    }

    @Says("Terms: What has a number has it from 0 on, as it comes.")
    static void numbersFromZero() {
        LoftGraves x = Cases.told("dead 1 0 0;yard 30;sun 2 0;yard 40;dead 2 0 0;yard 50;");
        for (int i = 0; i < 3; i++) due("yard(" + i + ", 0)", x.yard(i, 0), 30 + 10 * i);
        for (int d = 0; d < 2; d++) due("dead(" + d + ", 0)", x.dead(d, 0), 1 + d);
    }

    @Says("Terms: A SET is a whole number, bit k for k.")
    static void sets() {
        LoftGraves x = Cases.told(Cases.EIGHT_YARDS + Cases.SEVEN_DEAD);
        due("all YARDS", x.day(0), 255);
        due("all DEAD", x.told(5), 127);
        x.lay(6, 7);
        due("the last alone", x.told(6), 64);
        due("all but the last", x.told(5), 63);
    }

    @Says("Terms: UNKNOWN (a YARD, one of the DEAD, IMAGE that there is not; bits of such)")
    static void unknownAheadOfAllElse() {
        LoftGraves x = Cases.told("yard 0;dead 1 1 1;");
        x.lay(0, 0);
        due("yard(1, 2)", x.yard(1, 2), UNKNOWN);
        due("dead(1, 9)", x.dead(1, 9), UNKNOWN);
        due("letter(1, 100)", x.letter(1, 100), UNKNOWN);
        due("gift(1, 0)", x.gift(1, 0), UNKNOWN);
        due("knock(1)", x.knock(1), UNKNOWN);
        due("lay(0, 1)", x.lay(0, 1), UNKNOWN);
        due("lay(1, 0)", x.lay(1, 0), UNKNOWN);
        due("offended(1)", x.offended(1), UNKNOWN);
        due("bribe(1, 7)", x.bribe(1, 7), UNKNOWN);
        due("goBack(2)", x.goBack(2), UNKNOWN);
        for (int k = 0; k < 20; k++) x.write(0, 0);
        due("write(1, 0)", x.write(1, 0), UNKNOWN);
        due("write(0, 1)", x.write(0, 1), UNKNOWN);
    }

    @Says("Terms: OUTSIDE (another number out of its bounds), NOT (not now, as told), FULL.")
    static void outsideAheadOfNotAndFull() {
        LoftGraves x = Cases.told("yard 0;dead 1 1 1;dead 1 1 1;");
        x.lay(0, 0);
        x.knock(1);
        due("gift(0, 0)", x.gift(0, 0), OUTSIDE);
        due("gift(1, 1000)", x.gift(1, 1000), OUTSIDE);
        due("bribe(0, 7)", x.bribe(0, 7), OUTSIDE);
        due("bribe(1, -1)", x.bribe(1, -1), OUTSIDE);
        Cases.feed(x, " ".repeat(400));
        due("feed(0, 32)", x.feed(0, 32), OUTSIDE);
        due("feed(9, 32)", x.feed(9, 32), OUTSIDE);
    }

    @Says("Terms: What is refused changes nothing.")
    static void refusedWritesAndMarks() {
        LoftGraves x = Cases.told(TWO);
        Cases.refused(x, UNKNOWN, "mark(0, 4)", () -> x.mark(0, 4));
        Cases.refused(x, UNKNOWN, "label(0, 2)", () -> x.label(0, 2));
        Cases.refused(x, UNKNOWN, "label(2, 0)", () -> x.label(2, 0));
        Cases.refused(x, UNKNOWN, "write(0, 2)", () -> x.write(0, 2));
        Cases.refused(x, OUTSIDE, "seed(-1)", () -> x.seed(-1));
    }

    @Says("Terms: What is refused changes nothing.")
    static void refusedDays() {
        LoftGraves x = Cases.told(TWO);
        x.seed(4321);
        Cases.refused(x, OUTSIDE, "day(10)", () -> x.day(10));
        Cases.refused(x, OUTSIDE, "rats(100, 10)", () -> x.rats(100, 10));
        Cases.refused(x, OUTSIDE, "spring(100, 9)", () -> x.spring(100, 9));
        Cases.refused(x, OUTSIDE, "spring(99, 10)", () -> x.spring(99, 10));
    }

    // ---- THE PARISH as a text

    @Says("1 THE PARISH: is told in a text (400 bytes at most)")
    static void parishOfJust400Bytes() {
        Cases.parishFine(" ".repeat(393) + "yard 5;", 0);
        Cases.parishFine("dead 1 2 3;" + " ".repeat(389), 1);
        Cases.parishFault(" ".repeat(399) + "y", 1, 399);
        Cases.parishFault(" ".repeat(396) + "yard", 1, 400);
    }

    @Says("1 THE PARISH: S 1 .. 20")
    static void boundsOfS() {
        Cases.parishFault("sun 0 5;", 2, 4);
        Cases.parishFault("sun 21 5;", 2, 4);
        Cases.parishFault("sun 999 5;", 2, 4);
        due("S 1", Cases.told("sun 1 5;").told(3), 1);
        due("S 20", Cases.told("sun 20 5;").told(3), 20);
    }

    @Says("1 THE PARISH: F 0 .. 20")
    static void boundsOfF() {
        Cases.parishFault("sun 5 21;", 2, 6);
        Cases.parishFault("sun 5 999;", 2, 6);
        due("F 0", Cases.told("sun 5 0;").told(4), 0);
        due("F 20", Cases.told("sun 5 20;").told(4), 20);
    }

    @Says("1 THE PARISH: 6 2 untold")
    static void sunUntold() {
        LoftGraves x = Cases.told("sun 5 7;yard 1;");
        due("told before", x.told(3), 5);
        Cases.parish(x, "yard 50;yard 50;");
        due("S", x.told(3), 6);
        due("F", x.told(4), 2);
        x.day(3);
        due("thawed by 18", x.yard(0, 0), 32);
        due("thawed by 16", x.yard(1, 0), 34);
        Cases.parish(x, "");
        due("S of an empty text", x.told(3), 6);
        due("F of an empty text", x.told(4), 2);
    }

    @Says("1 THE PARISH: once")
    static void sunOnce() {
        Cases.parishFault("sun 1 1;sun 2 2;", 3, 8);
        Cases.parishFault("sun 6 2;yard 1;  sun", 3, 17);
        Cases.parishFine("yard 1;dead 1 1 1;sun 1 1;", 1);
    }

    @Says("1 THE PARISH: less F times i, inches, 0 at least")
    static void thawZeroAtLeast() {
        LoftGraves x = Cases.told("sun 2 1;yard 50;yard 50;yard 50;yard 50;");
        x.day(1);
        int[] want = {48, 49, 50, 50};
        for (int i = 0; i < 4; i++) due("yard(" + i + ", 0)", x.yard(i, 0), want[i]);
    }

    @Says("1 THE PARISH: 8 YARDS at most")
    static void eightYards() {
        LoftGraves x = Cases.told(Cases.EIGHT_YARDS);
        due("YARDS", x.told(0), 8);
        Cases.parishFault(Cases.EIGHT_YARDS + "yard 0;", 3, 56);
        Cases.parishFault(Cases.EIGHT_YARDS + " sun 1 1; yard", 3, 66);
    }

    @Says("1 THE PARISH: FROST D inches deep, 0 .. 99")
    static void boundsOfFrost() {
        LoftGraves x = Cases.told("yard 0;yard 99;");
        due("0", x.yard(0, 0), 0);
        due("99", x.yard(1, 0), 99);
        Cases.parishFault("yard 100;", 2, 5);
        Cases.parishFault("yard 999;", 2, 5);
    }

    @Says("1 THE PARISH: 7 DEAD at most")
    static void sevenDead() {
        LoftGraves x = Cases.told(Cases.SEVEN_DEAD);
        due("DEAD", x.told(1), 7);
        Cases.parishFault(Cases.SEVEN_DEAD + "dead 0 0 0;", 3, 77);
        Cases.parishFault(Cases.SEVEN_DEAD + " yard 0; dead", 3, 86);
    }

    @Says("1 THE PARISH: RANK R 0 .. 99")
    static void boundsOfRank() {
        LoftGraves x = Cases.told("dead 0 1 1;dead 99 1 1;");
        due("0", x.dead(0, 0), 0);
        due("99", x.dead(1, 0), 99);
        Cases.parishFault("dead 100 1 1;", 2, 5);
    }

    @Says("1 THE PARISH: WAITS W days by now, 0 .. 999")
    static void boundsOfWaits() {
        LoftGraves x = Cases.told("dead 1 0 1;dead 1 999 1;");
        due("0", x.dead(0, 1), 0);
        due("999", x.dead(1, 1), 999);
        Cases.parishFault("dead 1 1000 1;", 2, 7);
    }

    @Says("1 THE PARISH: KIN K 0 .. 9")
    static void boundsOfKin() {
        LoftGraves x = Cases.told("dead 1 1 0;dead 1 1 9;");
        due("0", x.dead(0, 2), 0);
        due("9", x.dead(1, 2), 9);
        Cases.parishFault("dead 1 1 10;", 2, 9);
    }

    // ---- CUSTOM as a text

    @Says("1 THE PARISH: CUSTOM is told in a text (400 bytes at most)")
    static void customOfJust400Bytes() {
        Cases.customFine(" ".repeat(396) + "kin;", 1);
        Cases.customFine("kin;" + " ".repeat(396), 1);
        Cases.customFault(" ".repeat(399) + "k", 1, 399);
        Cases.customFault(" ".repeat(397) + "kin", 1, 400);
    }

    @Says("1 THE PARISH: (each once at most)")
    static void clausesOnce() {
        Cases.customFine("kin;gifts;waits;rank;", 4);
        for (String clause : new String[] {"rank;", "waits;", "gifts;", "kin;"}) {
            Cases.customFine(clause, 1);
            Cases.customFault(clause + clause, 3, clause.length());
        }
        Cases.customFault("kin;gifts;waits;rank; kin;", 3, 22);
        Cases.customFault("kin;gifts;waits;rank;ran;", 1, 21);
    }

    @Says("1 THE PARISH: At first: rank, waits.")
    static void customAtFirst() {
        LoftGraves x = Cases.told("dead 1 9 0;dead 2 0 9;dead 1 8 0;dead 1 9 0;");
        x.gift(3, 9);
        Cases.inOrder(x, 1, 0, 3, 2);
    }

    // ---- NUMBERS, words, blanks

    @Says("1 THE PARISH: NUMBERS have one to three figures")
    static void figures() {
        due("one", Cases.told("yard 7;").yard(0, 0), 7);
        due("two", Cases.told("yard 07;").yard(0, 0), 7);
        due("three", Cases.told("yard 007;").yard(0, 0), 7);
        due("three noughts", Cases.told("yard 000;").yard(0, 0), 0);
        due("three of WAITS", Cases.told("dead 1 123 1;").dead(0, 1), 123);
        Cases.parishFault("yard ;", 1, 5);
        Cases.parishFault("yard 0007;", 2, 5);
    }

    @Says("1 THE PARISH: words are letters a .. z side by side")
    static void wholeWords() {
        Cases.parishFault("yar 1;", 1, 0);
        Cases.parishFault("yardz 1;", 1, 0);
        Cases.parishFault("yarda 1;", 1, 0);
        Cases.parishFault("sunsun 1 1;", 1, 0);
        Cases.parishFault("yard{1;", 1, 4);
        Cases.parishFault("yard`1;", 1, 4);
        Cases.parishFault("Yard 1;", 1, 0);
        Cases.customFault("rankwaits;", 1, 0);
        Cases.customFault("ranK;", 1, 0);
        Cases.customFault("rankZ;", 1, 4);
    }

    @Says("1 THE PARISH: 1 it cannot stand there (a word that cannot: at its first letter).")
    static void eachLetterOfAWord() {
        for (String word : new String[] {"sun", "yard", "dead", "rank", "waits", "gifts", "kin"}) {
            boolean ofParish = word.equals("sun") || word.equals("yard") || word.equals("dead");
            for (int k = 0; k <= word.length(); k++) {
                String rest = word.substring(k);
                String less = rest.isEmpty() ? "" : word.substring(0, k) + rest.substring(1);
                String other = rest.isEmpty() ? "" : word.substring(0, k) + "x" + rest.substring(1);
                for (String text : new String[] {less, other, word.substring(0, k) + "x" + rest}) {
                    if (text.isEmpty()) continue;
                    if (ofParish) due("parish of '" + text + "'", parishOf(" " + text + " 1 1 1;"), 1);
                    else due("custom of '" + text + "'", customOf(" " + text + ";"), 1);
                }
            }
        }
    }

    /** The place of FAULT 1, or NONE if the answer is another. */
    private static int parishOf(String text) {
        LoftGraves x = new LoftGraves();
        return Cases.parish(x, text) == -11 ? x.fault() : NONE;
    }

    private static int customOf(String text) {
        LoftGraves x = new LoftGraves();
        return Cases.custom(x, text) == -11 ? x.fault() : NONE;
    }

    @Says("1 THE PARISH: blanks (32) may stand anywhere but within words and NUMBERS")
    static void blanks() {
        Cases.parishFine("  sun  1   2 ;  yard3 ; yard   4  ;dead5  6  7  ;  ", 1);
        Cases.customFine("  rank  ;  kin ; ", 2);
        Cases.parishFault("ya rd 1;", 1, 0);
        Cases.parishFault("yard 1 2;", 1, 7);
        Cases.customFault("ra nk;", 1, 0);
        for (int other : new int[] {0, 9, 10, 13, 31, 33, 160, 255}) {
            Cases.parishFault("yard" + (char) other + "1;", 1, 4);
            Cases.customFault("kin" + (char) other + ";", 1, 3);
        }
    }

    @Says("1 THE PARISH: two words, two NUMBERS side by side need one.")
    static void sideBySide() {
        Cases.parishFine("yard5;yard6;dead7 8 9;", 1);
        due("two NUMBERS with a blank", Cases.told("sun 1 2;").told(4), 2);
        Cases.parishFault("sun 12;", 1, 6);
        Cases.parishFault("dead 1 11;", 1, 9);
        Cases.parishFault("sunyard 1;", 1, 0);
        Cases.parishFault("yard 5yard 6;", 1, 6);
    }

    // ---- FAULTS

    @Says("1 THE PARISH: at the first byte that has one")
    static void firstFault() {
        Cases.parishFault("yard 100;x;yard 1111;", 2, 5);
        Cases.parishFault("x;yard 100;", 1, 0);
        Cases.parishFault("sun 1 1;sun 99 99;x", 3, 8);
        Cases.parishFault("dead 100 1111 x", 2, 5);
        Cases.parishFault("sun 0 21;", 2, 4);
        Cases.customFault("kin;kin;x", 3, 4);
        Cases.customFault("kin;x;kin", 1, 4);
    }

    @Says("1 THE PARISH: (the end at the text's length)")
    static void faultAtTheEnd() {
        Cases.parishFault("sun", 1, 3);
        Cases.parishFault("sun 1", 1, 5);
        Cases.parishFault("sun 1 1", 1, 7);
        Cases.parishFault("dead 1 1 1 ", 1, 11);
        Cases.parishFault("yard   ", 1, 7);
        Cases.customFault("kin", 1, 3);
        Cases.customFault("rank;kin  ", 1, 10);
    }

    @Says("1 THE PARISH: of these the least")
    static void leastFaultOfAByte() {
        Cases.parishFault("yard 1 1111;", 1, 7);
        Cases.parishFault("1111", 1, 0);
        Cases.parishFault("sun 1 1;yard sun", 1, 13);
        Cases.parishFault(Cases.EIGHT_YARDS + "dead yard", 1, 61);
        Cases.parishFault(Cases.SEVEN_DEAD + "yard dead", 1, 82);
        Cases.customFault("kin kin;", 1, 4);
        Cases.customFault("kin;1111", 1, 4);
    }

    @Says("1 THE PARISH: 1 it cannot stand there (a word that cannot: at its first letter).")
    static void cannotStand() {
        Cases.parishFault(";", 1, 0);
        Cases.parishFault("yard 1;;", 1, 7);
        Cases.parishFault("5", 1, 0);
        Cases.parishFault("yard;", 1, 4);
        Cases.parishFault("yard -1;", 1, 5);
        Cases.parishFault("yard dead", 1, 5);
        Cases.parishFault("yard 1 dead", 1, 7);
        Cases.parishFault("yard 1,", 1, 6);
        Cases.parishFault("yard 1x;", 1, 6);
        Cases.parishFault("yard /;", 1, 5);
        Cases.parishFault("yard :;", 1, 5);
        Cases.parishFault("dead 1 1;", 1, 8);
        Cases.parishFault("dead 1 1 1 1;", 1, 11);
        Cases.parishFault("rank;", 1, 0);
        Cases.customFault(";", 1, 0);
        Cases.customFault("kin;;", 1, 4);
        Cases.customFault("kin rank;", 1, 4);
        Cases.customFault("kin 1;", 1, 4);
        Cases.customFault("yard 1;", 1, 0);
    }

    @Says("1 THE PARISH: 2 a NUMBER of four figures or more, or out of its bounds (at its first).")
    static void badNumbers() {
        Cases.parishFault("yard 0000;", 2, 5);
        Cases.parishFault("yard  1000;", 2, 6);
        Cases.parishFault("yard 4294967296;", 2, 5);
        Cases.parishFault("yard 18446744073709551616;", 2, 5);
        Cases.parishFault("yard 0000", 2, 5);
        Cases.parishFault("dead 1 0001 1;", 2, 7);
        Cases.parishFault("dead 1 1 0009;", 2, 9);
        Cases.parishFault("sun 0001 1;", 2, 4);
        Cases.parishFault("sun 1 0001;", 2, 6);
    }

    @Says("1 THE PARISH: 3 'sun' again, a ninth YARD, an eighth 'dead', a clause of CUSTOM again (at its first letter).")
    static void again() {
        Cases.parishFault("sun 1 1; sun x", 3, 9);
        Cases.parishFault(Cases.EIGHT_YARDS + "  yard x", 3, 58);
        Cases.parishFault(Cases.SEVEN_DEAD + "  dead x", 3, 79);
        Cases.customFault("gifts;  gifts x", 3, 8);
        Cases.parishFault("sun 1 1;suns", 1, 8);
        Cases.parishFault(Cases.EIGHT_YARDS + "yards", 1, 56);
        Cases.parishFault(Cases.SEVEN_DEAD + "deads", 1, 77);
        Cases.customFault("gifts;giftss", 1, 6);
    }

    @Says("1 THE PARISH: An empty text (or one of blanks alone) has no FAULT: no YARDS, no DEAD; no clauses.")
    static void emptyTexts() {
        for (String text : new String[] {"", " ", " ".repeat(400)}) {
            LoftGraves x = Cases.told(TWO);
            due("parish()", Cases.parish(x, text), 0);
            due("fault()", x.fault(), NONE);
            due("YARDS", x.told(0), 0);
            due("DEAD", x.told(1), 0);
            due("custom()", Cases.custom(x, text), 0);
            due("fault()", x.fault(), NONE);
            due("clauses", x.told(9), 0);
        }
    }

    // ---- promise 1

    @Says("Promise 1: No YARDS, no DEAD.")
    static void newObject() {
        LoftGraves x = new LoftGraves();
        int[] want = {0, 0, 0, 6, 2, 0, 0, 0, 0, 2};
        for (int what = 0; what < want.length; what++) due("told(" + what + ")", x.told(what), want[what]);
        due("yard(0, 0)", x.yard(0, 0), UNKNOWN);
        due("dead(0, 0)", x.dead(0, 0), UNKNOWN);
        due("order(0)", x.order(0), NONE);
        due("fault()", x.fault(), NONE);
        due("seed(1)", x.seed(1), 0);
        due("goBack(0)", x.goBack(0), NOT);
        due("goBack(1)", x.goBack(1), NOT);
    }

    @Says("Promise 1: No YARDS, no DEAD.")
    static void callsOnAnEmptyParish() {
        LoftGraves x = new LoftGraves();
        due("day(9)", x.day(9), 0);
        due("day(-9)", x.day(-9), 0);
        due("rats(99, 10)", x.rats(99, 10), 0);
        due("the SEED without a DRAW", x.seed(0), 0);
        due("spring(1, 9)", x.spring(1, 9), 0);
        due("the SEED behind the DRAW of the HEAT alone", x.seed(0), 12345);
        due("quarrels()", x.quarrels(), 0);
        due("laying(NONE)", x.laying(NONE), 0);
        due("when(1, 9)", x.when(1, 9), NONE);
        due("span(1, 1, 9, 0)", x.span(1, 1, 9, 0), NONE);
        due("mixed(NONE)", x.mixed(NONE), 0);
        due("churches(0)", x.churches(0), 0);
        due("churches(1)", x.churches(1), 0);
        due("tear()", x.tear(), 0);
        due("judge()", x.judge(), NONE);
    }

    @Says("Promise 1: No YARDS, no DEAD.")
    static void unknownOnAnEmptyParish() {
        LoftGraves x = new LoftGraves();
        due("letter(0, 1)", x.letter(0, 1), UNKNOWN);
        due("gift(0, 1)", x.gift(0, 1), UNKNOWN);
        due("knock(0)", x.knock(0), UNKNOWN);
        due("lay(0, 0)", x.lay(0, 0), UNKNOWN);
        due("offended(0)", x.offended(0), UNKNOWN);
        due("laying(0)", x.laying(0), UNKNOWN);
        due("bribe(0, 0)", x.bribe(0, 0), UNKNOWN);
        due("label(0, 0)", x.label(0, 0), UNKNOWN);
        due("mark(0, 0)", x.mark(0, 0), UNKNOWN);
        due("mixed(0)", x.mixed(0), UNKNOWN);
        due("write(0, 0)", x.write(0, 0), UNKNOWN);
    }

    // ---- promise 2

    @Says("Promise 2: (n 1 .. 8)")
    static void feedTooFewTooMany() {
        LoftGraves x = new LoftGraves();
        for (int n : new int[] {MIN, -8, -1, 0, 9, 16, 400, MAX}) {
            due("feed(" + n + ", 32)", x.feed(n, 32), OUTSIDE);
            due("bytes", x.told(2), 0);
        }
        due("feed(1, 32)", x.feed(1, 32), 1);
        due("feed(8, 32)", x.feed(8, 32), 9);
    }

    @Says("Promise 2: The n lowest bytes (n 1 .. 8) of a long, the highest of these first")
    static void bytesOfALong() {
        LoftGraves x = new LoftGraves();
        x.feed(8, 0x7961726420343b20L);
        x.feed(4, 0xffffffff79617264L);
        x.feed(1, 0xffffffffffffff35L);
        x.feed(1, -197);
        due("parish()", x.parish(), 0);
        due("yard(0, 0)", x.yard(0, 0), 4);
        due("yard(1, 0)", x.yard(1, 0), 5);
        x.feed(8, 0xf961726420343b20L);
        due("a first byte above 127", x.parish(), -11);
        due("its place", x.fault(), 0);
        x.feed(8, 0x7961726420343bffL);
        due("a last byte above 127", x.parish(), -11);
        due("its place", x.fault(), 7);
    }

    @Says("Promise 2: how many it has")
    static void howManyBytes() {
        LoftGraves x = new LoftGraves();
        int sum = 0;
        for (int n = 1; n <= 8; n++) {
            sum += n;
            due("feed(" + n + ", 0)", x.feed(n, 0), sum);
            due("told(2)", x.told(2), sum);
        }
    }

    @Says("Promise 2: OUTSIDE, FULL (400).")
    static void fullText() {
        for (int n = 1; n <= 8; n++) {
            LoftGraves x = new LoftGraves();
            Cases.feed(x, " ".repeat(400 - n));
            due("a byte too many", n < 8 ? x.feed(n + 1, 0x78) : FULL, FULL);
            due("told(2)", x.told(2), 400 - n);
            due("just as many", x.feed(n, 0x2020202020202020L), 400);
            due("one more", x.feed(1, 0x78), FULL);
            due("eight more", x.feed(8, 0x78), FULL);
            due("told(2)", x.told(2), 400);
            due("what was refused is not read", x.parish(), 0);
        }
    }

    @Says("Promise 2: OUTSIDE, FULL (400).")
    static void roomAgain() {
        LoftGraves x = new LoftGraves();
        Cases.feed(x, "x".repeat(400));
        x.parish();
        due("behind a parish with a FAULT", x.feed(8, 0), 8);
        Cases.feed(x, "x".repeat(392));
        x.custom();
        due("behind a custom with a FAULT", x.feed(1, 32), 1);
        Cases.feed(x, " ".repeat(399));
        due("full", x.feed(1, 32), FULL);
        x.custom();
        due("behind a custom", x.feed(3, 32), 3);
    }

    // ---- promise 3

    @Says("Promise 3: THE TEXT (it is empty then, with a FAULT, too)")
    static void textIsEmptyBehindParish() {
        LoftGraves x = Cases.told("yard 1;");
        due("told(2)", x.told(2), 0);
        Cases.parish(x, "yard x");
        due("told(2) behind a FAULT", x.told(2), 0);
        due("parish() of it", x.parish(), 0);
    }

    @Says("Promise 3: (all in THE LOFT, no GIFTS, HOURS, BOOK")
    static void allIsNew() {
        LoftGraves x = Cases.told(TWO);
        x.gift(1, 9);
        x.lay(0, 0);
        x.knock(1);
        x.label(0, 1);
        x.mark(1, 0);
        x.write(0, 0);
        x.rats(1, 10);
        Cases.parish(x, TWO);
        due("in THE LOFT", x.told(5), 3);
        due("laid", x.told(6), 0);
        due("HOURS", x.told(7), 0);
        due("BOOK", x.told(8), 0);
        int[][] want = {{5, 6, 1, 0, 9, NONE, 0, 0, 3}, {7, 8, 2, 0, 9, NONE, 0, 1, 3}};
        for (int d = 0; d < 2; d++) for (int what = 0; what < 9; what++) due("dead(" + d + ", " + what + ")", x.dead(d, what), want[d][what]);
        due("yard(0, 1)", x.yard(0, 1), NONE);
        due("yard(0, 0)", x.yard(0, 0), 3);
    }

    @Says("Promise 3: becomes THE PARISH")
    static void nothingIsLeftOfTheParishBefore() {
        LoftGraves x = Cases.told(Cases.EIGHT_YARDS + Cases.SEVEN_DEAD);
        for (int d = 0; d < 5; d++) x.lay(d, 7 - d);
        x.mark(0, 3);
        due("quarrels()", x.quarrels() > 0 ? 1 : 0, 1);
        due("laying(NONE)", x.laying(NONE) > 0 ? 1 : 0, 1);
        due("fits()", x.fits() > 0 ? 1 : 0, 1);
        due("mixed(NONE)", x.mixed(NONE), 0);
        Cases.parish(x, "yard 0;yard 0;yard 0;dead 9 1 1;dead 8 1 2;dead 7 1 3;");
        due("laying(NONE)", x.laying(NONE), 0);
        for (int d = 0; d < 3; d++) due("laying(" + d + ")", x.laying(d), d);
        due("fits()", x.fits(), 6);
        due("mixed(2)", x.mixed(2), 2);
        x.lay(0, 0);
        x.lay(2, 2);
        due("quarrels()", x.quarrels(), 0);
        due("offended(2)", x.offended(2), 0);
        due("laying(1)", x.laying(1), 1);
    }

    @Says("Promise 3: IMAGES are gone")
    static void imagesAreGone() {
        LoftGraves x = Cases.told(TWO);
        x.keep(0);
        x.keep(1);
        Cases.parish(x, "");
        due("goBack(0)", x.goBack(0), NOT);
        due("goBack(1)", x.goBack(1), NOT);
    }

    @Says("Promise 3: CUSTOM, THE SEED stay")
    static void customAndSeedStay() {
        LoftGraves x = Cases.ruled(TWO, "kin;");
        x.seed(MAX);
        Cases.parish(x, "dead 9 9 9;dead 1 1 1;");
        due("clauses", x.told(9), 1);
        Cases.inOrder(x, 1, 0);
        due("THE SEED", x.seed(0), MAX);
    }

    @Says("Promise 3: how many DEAD")
    static void howManyDead() {
        for (int count = 0; count <= 7; count++) Cases.parishFine("dead 1 1 1;".repeat(count) + "yard 1;", count);
    }

    @Says("Promise 3: -10 less the number of its FAULT (all else is as it was)")
    static void allAsItWasBehindAFault() {
        for (String text : new String[] {"sun 9 9;yard 9;dead 9 9 9;x", "yard 9;dead 100", "sun 1 1;sun"}) {
            LoftGraves x = Cases.told(TWO);
            x.keep(0);
            x.lay(0, 0);
            x.gift(1, 9);
            x.write(1, 1);
            x.seed(77);
            java.util.List<Integer> before = Cases.all(x);
            due("parish()", Cases.parish(x, text) < -10 ? 1 : 0, 1);
            due("told(8)", x.told(8), 1);
            due("fault()", x.fault() > 0 ? 1 : 0, 1);
            Cases.parish(x, text);
            java.util.List<Integer> then = Cases.all(x);
            then.set(then.size() - 3, NONE);
            Cases.alike("behind the FAULT", before, then);
            due("goBack(0)", x.goBack(0), 1);
        }
    }

    // ---- promise 4

    @Says("Promise 4: THE TEXT (it is empty then, with a FAULT, too)")
    static void textIsEmptyBehindCustom() {
        LoftGraves x = new LoftGraves();
        Cases.custom(x, "kin;");
        due("told(2)", x.told(2), 0);
        Cases.custom(x, "kin;kin");
        due("told(2) behind a FAULT", x.told(2), 0);
    }

    @Says("Promise 4: how many clauses")
    static void howManyClauses() {
        Cases.customFine("", 0);
        Cases.customFine("gifts;", 1);
        Cases.customFine("gifts;kin;", 2);
        Cases.customFine("gifts;kin;rank;", 3);
        Cases.customFine("gifts;kin;rank;waits;", 4);
    }

    @Says("Promise 4: -10 less the number of its FAULT (CUSTOM is as it was)")
    static void customAsItWasBehindAFault() {
        LoftGraves x = Cases.ruled("dead 9 9 9;dead 1 1 1;", "kin;");
        Cases.custom(x, "rank;rank;");
        due("clauses", x.told(9), 1);
        Cases.inOrder(x, 1, 0);
        Cases.custom(x, "rank;x");
        due("clauses", x.told(9), 1);
        Cases.inOrder(x, 1, 0);
    }

    // ---- promise 5

    @Says("Promise 5: The place (from 0 on) of the byte that has the FAULT")
    static void placesOfFaults() {
        LoftGraves x = new LoftGraves();
        Cases.parish(x, "x");
        due("the first byte", x.fault(), 0);
        Cases.parish(x, " ".repeat(399) + "x");
        due("the last byte of a full text", x.fault(), 399);
        Cases.parish(x, "yard" + " ".repeat(396));
        due("the end of a full text", x.fault(), 400);
    }

    @Says("Promise 5: of the latest parish(), custom(); NONE.")
    static void theLatestFault() {
        LoftGraves x = new LoftGraves();
        due("at first", x.fault(), NONE);
        Cases.parish(x, "yard x");
        due("of the parish", x.fault(), 5);
        due("asked again", x.fault(), 5);
        Cases.custom(x, "kin;x");
        due("of the custom", x.fault(), 4);
        Cases.parish(x, "");
        due("a parish without", x.fault(), NONE);
        Cases.custom(x, "x");
        Cases.custom(x, "");
        due("a custom without", x.fault(), NONE);
    }

    // ---- promises 6 to 8

    @Says("Promise 6: 0 YARDS, 1 DEAD, 2 bytes of THE TEXT")
    static void toldTooFarDownOrUp() {
        LoftGraves x = Cases.told("yard 1;yard 1;yard 1;dead 1 1 1;");
        for (int what : new int[] {MIN, -1, 10, MAX}) due("told(" + what + ")", x.told(what), OUTSIDE);
        due("told(0)", x.told(0), 3);
        due("told(1)", x.told(1), 1);
        due("told(9)", x.told(9), 2);
    }

    @Says("Promise 6: 7 HOURS in all, 8 layings of THE BOOK, 9 clauses of CUSTOM. OUTSIDE.")
    static void toldSums() {
        LoftGraves x = Cases.told("yard 99;yard 0;dead 1 1 1;dead 1 1 1;");
        x.lay(0, 0);
        due("HOURS", x.told(7), 103);
        x.lay(1, 1);
        due("HOURS", x.told(7), 107);
        for (int k = 0; k < 21; k++) x.write(0, 0);
        due("a full BOOK", x.told(8), 20);
        x.tear();
        due("an empty BOOK", x.told(8), 0);
        Cases.custom(x, "");
        due("no clauses", x.told(9), 0);
    }

    @Says("Promise 7: UNKNOWN, OUTSIDE.")
    static void yardThatThereIsNot() {
        LoftGraves x = Cases.told(Cases.EIGHT_YARDS);
        for (int i : new int[] {MIN, -1, 8, MAX}) due("yard(" + i + ", 0)", x.yard(i, 0), UNKNOWN);
        for (int what : new int[] {MIN, -1, 2, MAX}) due("yard(7, " + what + ")", x.yard(7, what), OUTSIDE);
        due("yard(7, 0)", x.yard(7, 0), 0);
        Cases.parish(x, "yard 1;");
        due("yard(1, 0)", x.yard(1, 0), UNKNOWN);
    }

    @Says("Promise 7: 1 who lies there (NONE)")
    static void nobodyLiesThere() {
        LoftGraves x = Cases.told("yard 0;yard 0;dead 1 1 1;");
        due("nobody", x.yard(0, 1), NONE);
        x.lay(0, 1);
        due("nobody yet", x.yard(0, 1), NONE);
        due("the one with the number 0", x.yard(1, 1), 0);
        LoftGraves y = Cases.told(Cases.EIGHT_YARDS + Cases.SEVEN_DEAD);
        for (int i = 0; i < 8; i++) due("of eight YARDS, yard(" + i + ", 1)", y.yard(i, 1), NONE);
        y.lay(6, 7);
        for (int i = 0; i < 7; i++) due("of eight YARDS, yard(" + i + ", 1)", y.yard(i, 1), NONE);
        due("the last in the last", y.yard(7, 1), 6);
    }

    @Says("Promise 8: UNKNOWN, OUTSIDE.")
    static void deadThatThereIsNot() {
        LoftGraves x = Cases.told(Cases.SEVEN_DEAD);
        for (int d : new int[] {MIN, -1, 7, MAX}) due("dead(" + d + ", 0)", x.dead(d, 0), UNKNOWN);
        for (int what : new int[] {MIN, -1, 9, MAX}) due("dead(6, " + what + ")", x.dead(6, what), OUTSIDE);
        due("dead(6, 0)", x.dead(6, 0), 5);
        due("dead(6, 8)", x.dead(6, 8), 127);
        Cases.parish(x, "dead 1 1 1;");
        due("dead(1, 0)", x.dead(1, 0), UNKNOWN);
    }

    @Says("Promise 8: 5 YARD (NONE), 6 whether it KNOCKED (1, 0)")
    static void yardAndKnock() {
        LoftGraves x = Cases.told("yard 0;dead 1 1 1;dead 1 1 1;");
        due("no YARD", x.dead(0, 5), NONE);
        due("not KNOCKED", x.dead(0, 6), 0);
        x.lay(0, 0);
        x.knock(1);
        due("YARD 0", x.dead(0, 5), 0);
        due("laid, not KNOCKED", x.dead(0, 6), 0);
        due("KNOCKED", x.dead(1, 6), 1);
        due("KNOCKED, no YARD", x.dead(1, 5), NONE);
    }
}
