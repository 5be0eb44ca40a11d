/**
 * A parish whose ground is frozen: its yards, its dead in the loft, who is laid where and who quarrels.
 * ../shared/DOC.md tells what each call answers; the words used here are the words of that page.
 */
public final class LoftGraves {
    public static final int NONE = -1, UNKNOWN = -1000000001, OUTSIDE = -1000000002, NOT = -1000000003, FULL = -1000000004;

    private static final int MOST_BYTES = 400;
    private static final int MOST_YARDS = 8;
    private static final int MOST_DEAD = 7;
    private static final int MOST_CLAUSES = 4;
    private static final int MOST_LAYINGS = 20;
    private static final int MOST_FROST = 99;
    private static final int MOST_WAITED = 9999;
    private static final int MOST_GIFTS = 9999;
    private static final int MOST_GIFTS_AT_ONCE = 999;
    private static final int MOST_DAYS_AHEAD = 999;

    private static final int MISPLACED = 1;
    private static final int BAD_NUMBER = 2;
    private static final int AGAIN = 3;

    private static final int BY_RANK = 0;
    private static final int BY_WAITS = 1;
    private static final int BY_GIFTS = 2;
    private static final int BY_KIN = 3;

    private final Text text = new Text();
    private final Custom rules = new Custom();
    private final Custom rulesDraft = new Custom();
    private final Parish now = new Parish();
    private final Parish draft = new Parish();
    private final Parish firstImage = new Parish();
    private final Parish secondImage = new Parish();
    private boolean firstKept = false;
    private boolean secondKept = false;
    private final Book book = new Book();
    private final Plan plan = new Plan();
    private final Naming naming = new Naming();

    public LoftGraves() {
        rules.add(BY_RANK);
        rules.add(BY_WAITS);
        now.settle();
    }

    // ---- texts

    public int feed(int n, long bytes) {
        if (n < 1 || n > 8) return OUTSIDE;
        if (text.length + n > MOST_BYTES) return FULL;
        for (int k = n - 1; k >= 0; k--) text.append((int) (bytes >>> (8 * k)) & 255);
        return text.length;
    }

    public int parish() {
        draft.readFrom(text);
        text.length = 0;
        if (text.flaw != 0) return -10 - text.flaw;
        draft.settle();
        draft.chance = now.chance;
        now.copyFrom(draft);
        book.count = 0;
        firstKept = false;
        secondKept = false;
        return now.dead;
    }

    public int custom() {
        rulesDraft.readFrom(text);
        text.length = 0;
        if (text.flaw != 0) return -10 - text.flaw;
        rules.copyFrom(rulesDraft);
        return rules.count;
    }

    public int fault() {
        return text.flawPlace;
    }

    public int told(int what) {
        switch (what) {
            case 0: return now.yards;
            case 1: return now.dead;
            case 2: return text.length;
            case 3: return now.sun;
            case 4: return now.shade;
            case 5: return now.waiting();
            case 6: return now.laid();
            case 7: return now.hours;
            case 8: return book.count;
            case 9: return rules.count;
            default: return OUTSIDE;
        }
    }

    public int yard(int i, int what) {
        if (!now.hasYard(i)) return UNKNOWN;
        switch (what) {
            case 0: return at(now.frost, i);
            case 1: return now.whoLiesIn(i);
            default: return OUTSIDE;
        }
    }

    public int dead(int d, int what) {
        if (!now.hasDead(d)) return UNKNOWN;
        switch (what) {
            case 0: return at(now.rank, d);
            case 1: return at(now.waited, d);
            case 2: return at(now.kin, d);
            case 3: return at(now.gifts, d);
            case 4: return at(now.boards, d);
            case 5: return at(now.yardOf, d);
            case 6: return has(now.knocked, d) ? 1 : 0;
            case 7: return at(now.labels, d);
            case 8: return at(now.marks, d);
            default: return OUTSIDE;
        }
    }

    public int order(int i) {
        int loft = now.waiting();
        for (int d = 0; d < MOST_DEAD; d++) {
            if (has(loft, d) && now.placeAmong(rules, loft, d) == i) return d;
        }
        return NONE;
    }

    // ---- days

    public int letter(int d, int v) {
        if (!now.hasDead(d)) return UNKNOWN;
        if (v < 0 || v > 99) return OUTSIDE;
        int was = at(now.rank, d);
        put(now.rank, d, v);
        return was;
    }

    /** The most in all bounds the count, not the gift: what comes behind it is taken, but not counted. */
    public int gift(int d, int n) {
        if (!now.hasDead(d)) return UNKNOWN;
        if (n < 1 || n > MOST_GIFTS_AT_ONCE) return OUTSIDE;
        if (!has(now.waiting(), d)) return NOT;
        int then = Math.min(MOST_GIFTS, at(now.gifts, d) + n);
        put(now.gifts, d, then);
        return then;
    }

    public int knock(int d) {
        if (!now.hasDead(d)) return UNKNOWN;
        int loft = now.waiting();
        if (!has(loft, d)) return NOT;
        int place = now.placeAmong(rules, loft, d);
        now.knocked |= bit(d);
        return place;
    }

    public int day(int heat) {
        if (heat < -9 || heat > 9) return OUTSIDE;
        now.passDay(heat);
        return now.soft();
    }

    public int rats(int n, int r) {
        if (n < 1 || n > 99 || r < 0 || r > 10) return OUTSIDE;
        for (int night = 0; night < n; night++) now.passNight(r);
        return now.boardless();
    }

    public int lay(int d, int i) {
        if (!now.hasDead(d) || !now.hasYard(i)) return UNKNOWN;
        if (!has(now.waiting(), d) || has(now.taken(), i)) return NOT;
        return now.layDown(d, i);
    }

    public int spring(int n, int k) {
        if (n < 1 || n > 99 || k < 0 || k > 9) return OUTSIDE;
        for (int t = 0; t < n; t++) {
            now.passDay(now.draw(12) - 3);
            now.passNight(2);
            useSpades(k);
        }
        return Integer.bitCount(now.laid());
    }

    private void useSpades(int k) {
        for (int spade = 0; spade < k; spade++) {
            int d = now.firstAmong(rules, now.waiting());
            int free = now.softAndFree();
            if (d == NONE || free == 0) return;
            now.layDown(d, Integer.numberOfTrailingZeros(free));
        }
    }

    // ---- quarrels

    public int offended(int d) {
        if (!now.hasDead(d)) return UNKNOWN;
        if (!has(now.laid(), d)) return NOT;
        plan.begin(now, rules);
        return plan.whoOffends(d);
    }

    public int quarrels() {
        plan.begin(now, rules);
        return plan.quarrelsNow();
    }

    public int laying(int d) {
        if (d != NONE && !now.hasDead(d)) return UNKNOWN;
        plan.begin(now, rules);
        plan.find(now.waiting(), now.softAndFree());
        if (!plan.found) return NONE;
        if (d == NONE) return plan.fewest;
        return has(now.waiting(), d) ? at(plan.best, d) : NONE;
    }

    public int when(int n, int heat) {
        if (n < 1 || n > MOST_YARDS || heat < 1 || heat > 9) return OUTSIDE;
        return now.daysUntilSoft(n, heat);
    }

    public int span(int n, int a, int b, int what) {
        if (n < 1 || n > MOST_YARDS || a < 1 || a > 9 || b < a || b > 9 || what < 0 || what > 1) return OUTSIDE;
        return now.daysUntilSoft(n, what == 0 ? b : a);
    }

    public int bribe(int d, int p) {
        if (!now.hasDead(d)) return UNKNOWN;
        if (p < 0 || p > 6) return OUTSIDE;
        if (!has(now.waiting(), d)) return NOT;
        return leastBribe(d, p);
    }

    /** Tries the gifts on the one itself, and takes them back. */
    private int leastBribe(int d, int p) {
        int loft = now.waiting();
        int had = at(now.gifts, d);
        int most = Math.min(MOST_GIFTS_AT_ONCE, MOST_GIFTS - had);
        int least = NONE;
        for (int more = 0; more <= most && least == NONE; more++) {
            put(now.gifts, d, had + more);
            if (now.placeAmong(rules, loft, d) <= p) least = more;
        }
        put(now.gifts, d, had);
        return least;
    }

    // ---- names

    public int label(int c, int name) {
        if (!now.hasDead(c) || !now.hasDead(name)) return UNKNOWN;
        int was = at(now.labels, c);
        put(now.labels, c, name);
        return was;
    }

    public int mark(int c, int set) {
        if (!now.hasDead(c) || (set & ~allBelow(now.dead)) != 0) return UNKNOWN;
        int was = at(now.marks, c);
        put(now.marks, c, set);
        return was;
    }

    public int fits() {
        return naming.countWays(now);
    }

    public int mixed(int c) {
        if (c != NONE && !now.hasDead(c)) return UNKNOWN;
        naming.weigh(now);
        if (naming.fewestChanges() >= Naming.NEVER) return NONE;
        return c == NONE ? naming.fewestChanges() : naming.nameOf(now, c);
    }

    public int churches(int what) {
        if (what < 0 || what > 1) return OUTSIDE;
        int loft = now.waiting();
        int leastSet = 0;
        int leastGap = now.ranksOf(loft);
        for (int set = 1; set < bit(MOST_DEAD); set++) {
            if ((set & ~loft) != 0) continue;
            int gap = Math.abs(now.ranksOf(set) - now.ranksOf(loft & ~set));
            if (gap < leastGap) {
                leastGap = gap;
                leastSet = set;
            }
        }
        return what == 0 ? leastGap : leastSet;
    }

    // ---- books, images

    public int write(int d, int i) {
        if (!now.hasDead(d) || !now.hasYard(i)) return UNKNOWN;
        if (book.count >= MOST_LAYINGS) return FULL;
        book.add(d, i);
        return book.count;
    }

    public int tear() {
        int had = book.count;
        book.count = 0;
        return had;
    }

    public int judge() {
        int loft = now.waiting();
        int free = now.softAndFree();
        for (int n = 0; n < book.count; n++) {
            int d = at(book.who, n);
            int i = at(book.where, n);
            if (!has(loft, d) || !has(free, i) || d != now.firstAmong(rules, loft)) return n;
            loft &= ~bit(d);
            free &= ~bit(i);
        }
        return NONE;
    }

    public int seed(int v) {
        if (v < 0) return OUTSIDE;
        int was = now.chance;
        now.chance = v;
        return was;
    }

    public int keep(int i) {
        if (i < 0 || i > 1) return UNKNOWN;
        if (i == 0) {
            firstImage.copyFrom(now);
            firstKept = true;
        } else {
            secondImage.copyFrom(now);
            secondKept = true;
        }
        return 1;
    }

    public int goBack(int i) {
        if (i < 0 || i > 1) return UNKNOWN;
        if (i == 0 ? !firstKept : !secondKept) return NOT;
        now.copyFrom(i == 0 ? firstImage : secondImage);
        return 1;
    }

    // ---- rows and sets

    private static int at(int[] row, int i) {
        return row != null && i >= 0 && i < row.length ? row[i] : 0;
    }

    private static void put(int[] row, int i, int value) {
        if (row != null && i >= 0 && i < row.length) row[i] = value;
    }

    private static void copyRow(int[] from, int[] to) {
        for (int i = 0; i < MOST_YARDS; i++) put(to, i, at(from, i));
    }

    private static int bit(int k) {
        return k >= 0 && k < 31 ? 1 << k : 0;
    }

    private static boolean has(int set, int k) {
        return k >= 0 && k < 31 && (set >> k & 1) == 1;
    }

    private static int allBelow(int count) {
        return bit(count) - 1;
    }

    /** THE TEXT, and the place up to which it has been read, with the first fault met. */
    private static final class Text {
        private final byte[] bytes = new byte[MOST_BYTES];
        private int length = 0;
        private int place = 0;
        private int flaw = 0;
        private int flawPlace = NONE;

        private void append(int value) {
            if (length < 0 || length >= bytes.length) return;
            bytes[length] = (byte) value;
            length++;
        }

        private void begin() {
            place = 0;
            flaw = 0;
            flawPlace = NONE;
        }

        /** The reader goes from left to right, so the first fault that it meets is the one to keep. */
        private void blame(int number, int where) {
            if (flaw != 0) return;
            flaw = number;
            flawPlace = where;
        }

        /** A byte, or NONE outside the text, which is no sign of any clause. */
        private int byteAt(int i) {
            return i >= 0 && i < length && i < bytes.length ? bytes[i] & 255 : NONE;
        }

        private void skipBlanks() {
            while (place < length && byteAt(place) == ' ') place++;
        }

        private boolean goesOn() {
            skipBlanks();
            return flaw == 0 && place < length;
        }

        /** Goes behind the word if the whole word that stands here is this one. */
        private boolean takeWord(String word) {
            int end = place;
            while (end < length && byteAt(end) >= 'a' && byteAt(end) <= 'z') end++;
            if (end - place != word.length()) return false;
            for (int k = 0; k < word.length(); k++) {
                if (byteAt(place + k) != word.charAt(k)) return false;
            }
            place = end;
            return true;
        }

        private int takeNumber(int low, int high) {
            skipBlanks();
            int first = place;
            int value = 0;
            while (place < length && byteAt(place) >= '0' && byteAt(place) <= '9') {
                if (place - first < 3) value = value * 10 + byteAt(place) - '0';
                place++;
            }
            if (place == first) {
                blame(MISPLACED, first);
            } else if (place - first > 3 || value < low || value > high) {
                blame(BAD_NUMBER, first);
            }
            return value;
        }

        private void takeStop() {
            skipBlanks();
            if (byteAt(place) == ';') {
                place++;
            } else {
                blame(MISPLACED, place);
            }
        }
    }

    /** CUSTOM: what counts, the first first. */
    private static final class Custom {
        private final int[] clauses = new int[MOST_CLAUSES];
        private int count = 0;

        private void add(int clause) {
            put(clauses, count, clause);
            count++;
        }

        private boolean counts(int clause) {
            for (int k = 0; k < count; k++) {
                if (at(clauses, k) == clause) return true;
            }
            return false;
        }

        private void copyFrom(Custom other) {
            copyRow(other.clauses, clauses);
            count = other.count;
        }

        private void readFrom(Text text) {
            count = 0;
            text.begin();
            for (int n = 0; n < MOST_BYTES && text.goesOn(); n++) readClause(text);
        }

        private void readClause(Text text) {
            int first = text.place;
            int clause = NONE;
            if (text.takeWord("rank")) clause = BY_RANK;
            else if (text.takeWord("waits")) clause = BY_WAITS;
            else if (text.takeWord("gifts")) clause = BY_GIFTS;
            else if (text.takeWord("kin")) clause = BY_KIN;
            if (clause == NONE) {
                text.blame(MISPLACED, first);
            } else if (counts(clause)) {
                text.blame(AGAIN, first);
            } else {
                add(clause);
                text.takeStop();
            }
        }
    }

    /** What a parish's text tells, and all that has become of it: what an IMAGE keeps. */
    private static final class Parish {
        private int yards = 0;
        private int dead = 0;
        private int sun = 0;
        private int shade = 0;
        private final int[] frost = new int[MOST_YARDS];
        private final int[] rank = new int[MOST_DEAD];
        private final int[] waited = new int[MOST_DEAD];
        private final int[] kin = new int[MOST_DEAD];
        private final int[] gifts = new int[MOST_DEAD];
        private final int[] boards = new int[MOST_DEAD];
        private final int[] yardOf = new int[MOST_DEAD];
        private final int[] labels = new int[MOST_DEAD];
        private final int[] marks = new int[MOST_DEAD];
        private int knocked = 0;
        private int hours = 0;
        private int chance = 0;

        private void copyFrom(Parish other) {
            yards = other.yards;
            dead = other.dead;
            sun = other.sun;
            shade = other.shade;
            copyRow(other.frost, frost);
            copyRow(other.rank, rank);
            copyRow(other.waited, waited);
            copyRow(other.kin, kin);
            copyRow(other.gifts, gifts);
            copyRow(other.boards, boards);
            copyRow(other.yardOf, yardOf);
            copyRow(other.labels, labels);
            copyRow(other.marks, marks);
            knocked = other.knocked;
            hours = other.hours;
            chance = other.chance;
        }

        private void readFrom(Text text) {
            yards = 0;
            dead = 0;
            sun = 0;
            shade = 0;
            text.begin();
            for (int n = 0; n < MOST_BYTES && text.goesOn(); n++) readClause(text);
        }

        private void readClause(Text text) {
            int first = text.place;
            if (text.takeWord("sun")) readSun(text, first);
            else if (text.takeWord("yard")) readYard(text, first);
            else if (text.takeWord("dead")) readDead(text, first);
            else text.blame(MISPLACED, first);
        }

        /** S is 1 at least, so a sun of 0 is one that has not been told yet. */
        private void readSun(Text text, int first) {
            if (sun != 0) text.blame(AGAIN, first);
            sun = text.takeNumber(1, 20);
            shade = text.takeNumber(0, 20);
            text.takeStop();
        }

        private void readYard(Text text, int first) {
            if (yards >= MOST_YARDS) {
                text.blame(AGAIN, first);
                return;
            }
            put(frost, yards, text.takeNumber(0, MOST_FROST));
            text.takeStop();
            yards++;
        }

        private void readDead(Text text, int first) {
            if (dead >= MOST_DEAD) {
                text.blame(AGAIN, first);
                return;
            }
            put(rank, dead, text.takeNumber(0, 99));
            put(waited, dead, text.takeNumber(0, 999));
            put(kin, dead, text.takeNumber(0, 9));
            text.takeStop();
            dead++;
        }

        /** What a text does not tell: all of it as it is at first. */
        private void settle() {
            if (sun == 0) {
                sun = 6;
                shade = 2;
            }
            for (int d = 0; d < MOST_DEAD; d++) {
                put(gifts, d, 0);
                put(boards, d, 9);
                put(yardOf, d, NONE);
                put(labels, d, d);
                put(marks, d, allBelow(dead));
            }
            knocked = 0;
            hours = 0;
        }

        private boolean hasYard(int i) {
            return i >= 0 && i < yards;
        }

        private boolean hasDead(int d) {
            return d >= 0 && d < dead;
        }

        private int laid() {
            int set = 0;
            for (int d = 0; d < dead; d++) {
                if (at(yardOf, d) != NONE) set |= bit(d);
            }
            return set;
        }

        /** THE LOFT, a SET of DEAD. */
        private int waiting() {
            return allBelow(dead) & ~laid() & ~knocked;
        }

        private int whoLiesIn(int i) {
            for (int d = 0; d < dead; d++) {
                if (at(yardOf, d) == i) return d;
            }
            return NONE;
        }

        private int taken() {
            int set = 0;
            for (int d = 0; d < dead; d++) set |= bit(at(yardOf, d));
            return set;
        }

        private int soft() {
            int set = 0;
            for (int i = 0; i < yards; i++) {
                if (at(frost, i) == 0) set |= bit(i);
            }
            return set;
        }

        private int softAndFree() {
            return soft() & ~taken();
        }

        private int boardless() {
            int set = 0;
            for (int d = 0; d < dead; d++) {
                if (at(boards, d) == 0) set |= bit(d);
            }
            return set & waiting();
        }

        private int ranksOf(int set) {
            int sum = 0;
            for (int d = 0; d < dead; d++) {
                if (has(set, d)) sum += at(rank, d);
            }
            return sum;
        }

        private int worth(int clause, int d) {
            switch (clause) {
                case BY_RANK: return at(rank, d);
                case BY_WAITS: return at(waited, d);
                case BY_GIFTS: return at(gifts, d);
                case BY_KIN: return 9 - at(kin, d);
                default: return 0;
            }
        }

        /**
         * The ORDER by CUSTOM in one number: who has the greater one is ahead.
         * Each worth is below 10000, so four of them and the number of the one fit a long.
         */
        private long claim(Custom rules, int d) {
            long sum = 0;
            for (int k = 0; k < rules.count; k++) sum = sum * 10000 + worth(at(rules.clauses, k), d);
            return sum * 8 + MOST_DEAD - d;
        }

        /** As the claim, but who has no BOARDS is ahead of all who have. */
        private long urgentClaim(Custom rules, int d) {
            long claim = claim(rules, d);
            return at(boards, d) == 0 ? claim + 1000000000000000000L : claim;
        }

        private int placeAmong(Custom rules, int set, int d) {
            long own = urgentClaim(rules, d);
            int place = 0;
            for (int other = 0; other < dead; other++) {
                if (has(set, other) && urgentClaim(rules, other) > own) place++;
            }
            return place;
        }

        private int firstAmong(Custom rules, int set) {
            int first = NONE;
            long most = NONE;
            for (int d = 0; d < dead; d++) {
                if (!has(set, d)) continue;
                long claim = urgentClaim(rules, d);
                if (claim > most) {
                    most = claim;
                    first = d;
                }
            }
            return first;
        }

        private int thawOf(int i, int heat) {
            return Math.max(0, heat * sun - shade * i);
        }

        private void passDay(int heat) {
            int taken = taken();
            for (int i = 0; i < yards; i++) {
                int deep = at(frost, i);
                if (heat > 0) put(frost, i, Math.max(0, deep - thawOf(i, heat)));
                if (heat < 0 && !has(taken, i)) put(frost, i, Math.min(MOST_FROST, deep - heat));
            }
            int loft = waiting();
            for (int d = 0; d < dead; d++) {
                if (has(loft, d)) put(waited, d, Math.min(MOST_WAITED, at(waited, d) + 1));
            }
        }

        private int draw(int n) {
            chance = (int) ((chance * 1103515245L + 12345L) & 2147483647L);
            return n > 0 ? chance / 65536 % n : 0;
        }

        /** A DRAW is made for each in THE LOFT, also where it can change nothing: THE SEED goes on. */
        private void passNight(int r) {
            int loft = waiting();
            for (int d = 0; d < dead; d++) {
                if (has(loft, d) && draw(10) < r) put(boards, d, Math.max(0, at(boards, d) - 1));
            }
        }

        private int layDown(int d, int i) {
            int work = at(frost, i) + 4;
            put(frost, i, 0);
            put(yardOf, d, i);
            hours += work;
            return work;
        }

        private int softBehind(int days, int heat) {
            int taken = taken();
            int count = 0;
            for (int i = 0; i < yards; i++) {
                if (!has(taken, i) && at(frost, i) <= days * thawOf(i, heat)) count++;
            }
            return count;
        }

        private int daysUntilSoft(int n, int heat) {
            for (int days = 0; days <= MOST_DAYS_AHEAD; days++) {
                if (softBehind(days, heat) >= n) return days;
            }
            return NONE;
        }
    }

    /** THE BOOK: a row of layings. */
    private static final class Book {
        private final int[] who = new int[MOST_LAYINGS];
        private final int[] where = new int[MOST_LAYINGS];
        private int count = 0;

        private void add(int d, int i) {
            put(who, count, d);
            put(where, count, i);
            count++;
        }
    }

    /** Who would lie where, and how many QUARRELS there would be. */
    private static final class Plan {
        private final int[] behind = new int[MOST_DEAD];
        private final int[] alike = new int[MOST_DEAD];
        private final int[] tried = new int[MOST_DEAD];
        private final int[] best = new int[MOST_DEAD];
        private int fewest = 0;
        private boolean found = false;

        /** Takes those who are laid now; behind holds whom each is ahead of, alike who has the same KIN. */
        private void begin(Parish parish, Custom rules) {
            for (int d = 0; d < MOST_DEAD; d++) {
                put(behind, d, 0);
                put(alike, d, 0);
                put(tried, d, parish.hasDead(d) ? at(parish.yardOf, d) : NONE);
                for (int other = 0; other < MOST_DEAD; other++) {
                    if (parish.claim(rules, d) > parish.claim(rules, other)) put(behind, d, at(behind, d) | bit(other));
                    if (at(parish.kin, d) == at(parish.kin, other)) put(alike, d, at(alike, d) | bit(other));
                }
            }
        }

        private boolean offends(int other, int d) {
            return has(at(behind, d), other) && at(tried, other) < at(tried, d);
        }

        private int whoOffends(int d) {
            int set = 0;
            for (int other = 0; other < MOST_DEAD; other++) {
                if (at(tried, other) != NONE && offends(other, d)) set |= bit(other);
            }
            return set;
        }

        private int quarrelsOf(int d, int other) {
            int count = offends(other, d) || offends(d, other) ? 1 : 0;
            boolean sideBySide = Math.abs(at(tried, d) - at(tried, other)) == 1;
            return has(at(alike, d), other) && !sideBySide ? count + 1 : count;
        }

        private int quarrelsAmong(int d, int ahead) {
            int count = 0;
            for (int other = 0; other < ahead; other++) {
                if (other != d && at(tried, other) != NONE) count += quarrelsOf(d, other);
            }
            return count;
        }

        private int quarrelsNow() {
            int count = 0;
            for (int d = 0; d < MOST_DEAD; d++) {
                if (at(tried, d) != NONE) count += quarrelsAmong(d, d);
            }
            return count;
        }

        private void find(int loft, int free) {
            found = false;
            if (Integer.bitCount(loft) <= Integer.bitCount(free)) search(this, 0, loft, free, quarrelsNow());
        }

        /** Goes DEAD by DEAD to the lesser YARD first, so of like ones the first is met first and stays. */
        private static void search(Plan plan, int d, int loft, int free, int quarrels) {
            if (plan.found && quarrels >= plan.fewest) return;
            if (d >= MOST_DEAD) {
                plan.found = true;
                plan.fewest = quarrels;
                copyRow(plan.tried, plan.best);
                return;
            }
            if (!has(loft, d)) {
                search(plan, d + 1, loft, free, quarrels);
                return;
            }
            for (int i = 0; i < MOST_YARDS; i++) {
                if (!has(free, i)) continue;
                put(plan.tried, d, i);
                search(plan, d + 1, loft, free & ~bit(i), quarrels + plan.quarrelsAmong(d, MOST_DEAD));
            }
            put(plan.tried, d, NONE);
        }
    }

    /** Names for the coffins, all unlike; a SET here is of the names that the first coffins have taken. */
    private static final class Naming {
        private static final int NEVER = 99;

        private final int[] tally = new int[1 << MOST_DEAD];

        /** The tally of a SET: in how many ways as many coffins take just its names. */
        private int countWays(Parish parish) {
            int all = allBelow(parish.dead);
            put(tally, 0, 1);
            for (int set = 1; set <= all; set++) {
                int names = set & at(parish.marks, Integer.bitCount(set) - 1);
                int ways = 0;
                for (int name = 0; name < parish.dead; name++) {
                    if (has(names, name)) ways += at(tally, set & ~bit(name));
                }
                put(tally, set, ways);
            }
            return at(tally, all);
        }

        /** The tally of a SET: the fewest changes of the coffins that come when its names are taken. */
        private void weigh(Parish parish) {
            int all = allBelow(parish.dead);
            put(tally, all, 0);
            for (int set = all - 1; set >= 0; set--) {
                int fewest = NEVER;
                for (int name = 0; name < parish.dead; name++) {
                    fewest = Math.min(fewest, changesWith(parish, set, name));
                }
                put(tally, set, fewest);
            }
        }

        private int changesWith(Parish parish, int set, int name) {
            int coffin = Integer.bitCount(set);
            if (has(set, name) || !has(at(parish.marks, coffin), name)) return NEVER;
            int change = at(parish.labels, coffin) == name ? 0 : 1;
            return change + at(tally, set | bit(name));
        }

        private int fewestChanges() {
            return at(tally, 0);
        }

        /** Walks from coffin to coffin by the least name that still leads to the fewest changes. */
        private int nameOf(Parish parish, int coffin) {
            int set = 0;
            int taken = NONE;
            for (int c = 0; c <= coffin; c++) {
                taken = NONE;
                for (int name = 0; name < parish.dead && taken == NONE; name++) {
                    if (changesWith(parish, set, name) == at(tally, set)) taken = name;
                }
                set |= bit(taken);
            }
            return taken;
        }
    }
}
