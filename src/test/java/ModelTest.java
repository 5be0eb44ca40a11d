import java.util.ArrayList;
import java.util.Arrays;
import java.util.Comparator;
import java.util.List;
import java.util.Random;
import java.util.regex.Matcher;
import java.util.regex.Pattern;

/** Long runs of calls by draws, each answer held against a model that tries everything in the plainest way. */
public final class ModelTest {
    private static final int RUNS = 400;
    private static final int CALLS = 220;
    private static final int UNKNOWN = -1000000001, OUTSIDE = -1000000002, NOT = -1000000003, FULL = -1000000004;

    /** One of the dead, with the coffin of that number. */
    private static final class Body implements Cloneable {
        int number, rank, waited, kin, gifts, boards = 9, yard = -1, label, marks;
        boolean knocked;

        Body copy() {
            try {
                return (Body) clone();
            } catch (CloneNotSupportedException e) {
                throw new IllegalStateException(e);
            }
        }

        boolean waits() {
            return yard < 0 && !knocked;
        }
    }

    private static final class State {
        int sun = 6, shade = 2, hours;
        long chance;
        List<Integer> frost = new ArrayList<>();
        List<Body> dead = new ArrayList<>();

        State copy() {
            State s = new State();
            s.sun = sun;
            s.shade = shade;
            s.hours = hours;
            s.chance = chance;
            s.frost = new ArrayList<>(frost);
            for (Body b : dead) s.dead.add(b.copy());
            return s;
        }
    }

    private static final class Model {
        StringBuilder text = new StringBuilder();
        State now = new State();
        State[] images = new State[2];
        List<String> custom = List.of("rank", "waits");
        List<int[]> book = new ArrayList<>();
        int faultPlace = -1;

        // ---- texts: first all tokens, then the clauses by their shape

        /** kind: w a word, n a number, ; a stop, x another byte, e the end. */
        record Token(char kind, String text, int place) { }

        List<Token> tokens() {
            List<Token> list = new ArrayList<>();
            Matcher m = Pattern.compile("([a-z]+)|([0-9]+)|(;)|( +)|(.)", Pattern.DOTALL).matcher(text);
            while (m.find()) {
                if (m.group(4) != null) continue;
                char kind = m.group(1) != null ? 'w' : m.group(2) != null ? 'n' : m.group(3) != null ? ';' : 'x';
                list.add(new Token(kind, m.group(), m.start()));
            }
            list.add(new Token('e', "", text.length()));
            return list;
        }

        int faultAt(int number, Token t) {
            faultPlace = t.place;
            text.setLength(0);
            return -10 - number;
        }

        static int flawOf(Token t, int low, int high) {
            if (t.kind != 'n') return 1;
            if (t.text.length() > 3) return 2;
            int value = Integer.parseInt(t.text);
            return value < low || value > high ? 2 : 0;
        }

        int parish() {
            List<Token> ts = tokens();
            State s = new State();
            s.chance = now.chance;
            boolean sunTold = false;
            for (int k = 0; ts.get(k).kind != 'e'; ) {
                Token t = ts.get(k++);
                int[][] bounds;
                switch (t.kind == 'w' ? t.text : "") {
                    case "sun": bounds = new int[][] {{1, 20}, {0, 20}}; if (sunTold) return faultAt(3, t); break;
                    case "yard": bounds = new int[][] {{0, 99}}; if (s.frost.size() == 8) return faultAt(3, t); break;
                    case "dead": bounds = new int[][] {{0, 99}, {0, 999}, {0, 9}}; if (s.dead.size() == 7) return faultAt(3, t); break;
                    default: return faultAt(1, t);
                }
                int[] v = new int[bounds.length];
                for (int n = 0; n < v.length; n++) {
                    Token number = ts.get(k);
                    int flaw = flawOf(number, bounds[n][0], bounds[n][1]);
                    if (flaw != 0) return faultAt(flaw, number);
                    v[n] = Integer.parseInt(number.text);
                    k++;
                }
                if (ts.get(k).kind != ';') return faultAt(1, ts.get(k));
                k++;
                if (t.text.equals("sun")) {
                    sunTold = true;
                    s.sun = v[0];
                    s.shade = v[1];
                } else if (t.text.equals("yard")) {
                    s.frost.add(v[0]);
                } else {
                    Body b = new Body();
                    b.number = b.label = s.dead.size();
                    b.rank = v[0];
                    b.waited = v[1];
                    b.kin = v[2];
                    s.dead.add(b);
                }
            }
            for (Body b : s.dead) b.marks = (1 << s.dead.size()) - 1;
            now = s;
            images = new State[2];
            book.clear();
            text.setLength(0);
            faultPlace = -1;
            return s.dead.size();
        }

        int custom() {
            List<Token> ts = tokens();
            List<String> list = new ArrayList<>();
            for (int k = 0; ts.get(k).kind != 'e'; k += 2) {
                Token t = ts.get(k);
                if (!List.of("rank", "waits", "gifts", "kin").contains(t.text)) return faultAt(1, t);
                if (list.contains(t.text)) return faultAt(3, t);
                if (ts.get(k + 1).kind != ';') return faultAt(1, ts.get(k + 1));
                list.add(t.text);
            }
            custom = list;
            text.setLength(0);
            faultPlace = -1;
            return list.size();
        }

        int feed(int n, long bytes) {
            if (n < 1 || n > 8) return OUTSIDE;
            if (text.length() + n > 400) return FULL;
            for (int k = 0; k < n; k++) text.append((char) (bytes >> 8 * (n - 1 - k) & 0xff));
            return text.length();
        }

        // ---- who is where

        boolean isDead(int d) {
            return d >= 0 && d < now.dead.size();
        }

        boolean isYard(int i) {
            return i >= 0 && i < now.frost.size();
        }

        int setOf(List<Body> list) {
            return list.stream().mapToInt(b -> 1 << b.number).sum();
        }

        List<Body> loft() {
            return now.dead.stream().filter(Body::waits).toList();
        }

        List<Body> laid() {
            return now.dead.stream().filter(b -> b.yard >= 0).toList();
        }

        int lies(int i) {
            return now.dead.stream().filter(b -> b.yard == i).mapToInt(b -> b.number).findFirst().orElse(-1);
        }

        Comparator<Body> byCustom() {
            Comparator<Body> c = (a, b) -> 0;
            for (String clause : custom) {
                c = switch (clause) {
                    case "rank" -> c.thenComparing(b -> -b.rank);
                    case "waits" -> c.thenComparing(b -> -b.waited);
                    case "gifts" -> c.thenComparing(b -> -b.gifts);
                    default -> c.thenComparing(b -> b.kin);
                };
            }
            return c.thenComparing(b -> b.number);
        }

        List<Body> order() {
            Comparator<Body> urgentFirst = Comparator.comparing(b -> b.boards == 0 ? 0 : 1);
            return loft().stream().sorted(urgentFirst.thenComparing(byCustom())).toList();
        }

        int told(int what) {
            return switch (what) {
                case 0 -> now.frost.size();
                case 1 -> now.dead.size();
                case 2 -> text.length();
                case 3 -> now.sun;
                case 4 -> now.shade;
                case 5 -> setOf(loft());
                case 6 -> setOf(laid());
                case 7 -> now.hours;
                case 8 -> book.size();
                case 9 -> custom.size();
                default -> OUTSIDE;
            };
        }

        int yard(int i, int what) {
            if (!isYard(i)) return UNKNOWN;
            return what == 0 ? now.frost.get(i) : what == 1 ? lies(i) : OUTSIDE;
        }

        int dead(int d, int what) {
            if (!isDead(d)) return UNKNOWN;
            Body b = now.dead.get(d);
            int[] all = {b.rank, b.waited, b.kin, b.gifts, b.boards, b.yard, b.knocked ? 1 : 0, b.label, b.marks};
            return what < 0 || what > 8 ? OUTSIDE : all[what];
        }

        int orderAt(int i) {
            List<Body> order = order();
            return i < 0 || i >= order.size() ? -1 : order.get(i).number;
        }

        // ---- days

        int letter(int d, int v) {
            if (!isDead(d)) return UNKNOWN;
            if (v < 0 || v > 99) return OUTSIDE;
            int was = now.dead.get(d).rank;
            now.dead.get(d).rank = v;
            return was;
        }

        int gift(int d, int n) {
            if (!isDead(d)) return UNKNOWN;
            Body b = now.dead.get(d);
            if (n < 1 || n > 999) return OUTSIDE;
            if (!b.waits()) return NOT;
            return b.gifts = Math.min(9999, b.gifts + n);
        }

        int knock(int d) {
            if (!isDead(d)) return UNKNOWN;
            int place = order().indexOf(now.dead.get(d));
            if (place < 0) return NOT;
            now.dead.get(d).knocked = true;
            return place;
        }

        int thaw(int i, int heat) {
            return Math.max(0, heat * now.sun - now.shade * i);
        }

        int soft() {
            int set = 0;
            for (int i = 0; i < now.frost.size(); i++) if (now.frost.get(i) == 0) set += 1 << i;
            return set;
        }

        List<Integer> softAndFree() {
            List<Integer> list = new ArrayList<>();
            for (int i = 0; i < now.frost.size(); i++) if (now.frost.get(i) == 0 && lies(i) < 0) list.add(i);
            return list;
        }

        int day(int heat) {
            if (heat < -9 || heat > 9) return OUTSIDE;
            for (int i = 0; i < now.frost.size(); i++) {
                int f = now.frost.get(i);
                if (heat > 0) now.frost.set(i, Math.max(0, f - thaw(i, heat)));
                else if (lies(i) < 0) now.frost.set(i, Math.min(99, f - heat));
            }
            for (Body b : loft()) b.waited = Math.min(9999, b.waited + 1);
            return soft();
        }

        int draw(int n) {
            now.chance = (now.chance * 1103515245L + 12345L) % (1L << 31);
            return (int) (now.chance / 65536 % n);
        }

        int rats(int n, int r) {
            if (n < 1 || n > 99 || r < 0 || r > 10) return OUTSIDE;
            for (int night = 0; night < n; night++) {
                for (Body b : loft()) if (draw(10) < r && b.boards > 0) b.boards--;
            }
            return setOf(loft().stream().filter(b -> b.boards == 0).toList());
        }

        int lay(int d, int i) {
            if (!isDead(d) || !isYard(i)) return UNKNOWN;
            if (!now.dead.get(d).waits() || lies(i) >= 0) return NOT;
            int work = now.frost.get(i) + 4;
            now.frost.set(i, 0);
            now.dead.get(d).yard = i;
            now.hours += work;
            return work;
        }

        int spring(int n, int k) {
            if (n < 1 || n > 99 || k < 0 || k > 9) return OUTSIDE;
            for (int t = 0; t < n; t++) {
                day(draw(12) - 3);
                rats(1, 2);
                for (int s = 0; s < k && !order().isEmpty() && !softAndFree().isEmpty(); s++) {
                    lay(order().get(0).number, softAndFree().get(0));
                }
            }
            return laid().size();
        }

        // ---- quarrels

        int offended(int d) {
            if (!isDead(d)) return UNKNOWN;
            Body a = now.dead.get(d);
            if (a.yard < 0) return NOT;
            return setOf(laid().stream().filter(b -> byCustom().compare(a, b) < 0 && b.yard < a.yard).toList());
        }

        int quarrels() {
            int count = 0;
            for (Body a : laid()) {
                count += Integer.bitCount(offended(a.number));
                for (Body b : laid()) {
                    if (a.number < b.number && a.kin == b.kin && Math.abs(a.yard - b.yard) != 1) count++;
                }
            }
            return count;
        }

        /** Every laying in the order of likes; the first with the fewest stays. */
        void tryAll(List<Body> loft, int k, List<Integer> free, int[] best) {
            if (k == loft.size()) {
                int q = quarrels();
                if (best[0] < 0 || q < best[0]) {
                    best[0] = q;
                    for (Body b : now.dead) best[1 + b.number] = b.yard;
                }
                return;
            }
            for (Integer i : free) {
                List<Integer> rest = new ArrayList<>(free);
                rest.remove(i);
                loft.get(k).yard = i;
                tryAll(loft, k + 1, rest, best);
            }
            loft.get(k).yard = -1;
        }

        int laying(int d) {
            if (d != -1 && !isDead(d)) return UNKNOWN;
            List<Body> loft = loft();
            if (loft.size() > softAndFree().size()) return -1;
            int[] best = new int[8];
            Arrays.fill(best, -1);
            tryAll(loft, 0, softAndFree(), best);
            return d == -1 ? best[0] : now.dead.get(d).waits() ? best[1 + d] : -1;
        }

        int when(int n, int heat) {
            if (n < 1 || n > 8 || heat < 1 || heat > 9) return OUTSIDE;
            State was = now;
            now = now.copy();
            int answer = -1;
            for (int days = 0; days <= 200 && answer < 0; days++) {
                if (softAndFree().size() >= n) answer = days;
                day(heat);
            }
            now = was;
            return answer;
        }

        int span(int n, int a, int b, int what) {
            if (n < 1 || n > 8 || a < 1 || a > 9 || b < a || b > 9 || what < 0 || what > 1) return OUTSIDE;
            int fewest = -1;
            for (int heat = a; heat <= b; heat++) {
                int days = when(n, heat);
                if (days >= 0 && (fewest < 0 || days < fewest)) fewest = days;
            }
            return what == 0 ? fewest : when(n, a);
        }

        int bribe(int d, int p) {
            if (!isDead(d)) return UNKNOWN;
            if (p < 0 || p > 6) return OUTSIDE;
            if (!now.dead.get(d).waits()) return NOT;
            State was = now;
            int answer = -1;
            for (int g = 0; g <= 999 && answer < 0; g++) {
                now = was.copy();
                if (g > 0 && gift(d, g) < 0) continue;
                if (order().indexOf(now.dead.get(d)) <= p) answer = g;
            }
            now = was;
            return answer;
        }

        // ---- names

        int label(int c, int name) {
            if (!isDead(c) || !isDead(name)) return UNKNOWN;
            int was = now.dead.get(c).label;
            now.dead.get(c).label = name;
            return was;
        }

        int mark(int c, int set) {
            if (!isDead(c) || set < 0 || set >= 1 << now.dead.size()) return UNKNOWN;
            int was = now.dead.get(c).marks;
            now.dead.get(c).marks = set;
            return was;
        }

        List<int[]> ways() {
            List<int[]> all = new ArrayList<>();
            name(new int[now.dead.size()], 0, all);
            return all;
        }

        void name(int[] way, int c, List<int[]> all) {
            if (c == way.length) {
                all.add(way.clone());
                return;
            }
            for (int name = 0; name < way.length; name++) {
                boolean free = (now.dead.get(c).marks >> name & 1) == 1;
                for (int k = 0; k < c; k++) free &= way[k] != name;
                way[c] = name;
                if (free) name(way, c + 1, all);
            }
        }

        int fits() {
            return ways().size();
        }

        int mixed(int c) {
            if (c != -1 && !isDead(c)) return UNKNOWN;
            int fewest = 99;
            int[] best = null;
            for (int[] way : ways()) {
                int changes = 0;
                for (int k = 0; k < way.length; k++) if (way[k] != now.dead.get(k).label) changes++;
                if (changes >= fewest) continue;
                fewest = changes;
                best = way;
            }
            return best == null ? -1 : c == -1 ? fewest : best[c];
        }

        int churches(int what) {
            if (what < 0 || what > 1) return OUTSIDE;
            int best = Integer.MAX_VALUE, bestSet = -1;
            for (int set = 0; set < 128; set++) {
                if ((set & told(5)) != set) continue;
                int gap = 0;
                for (Body b : loft()) gap += (set >> b.number & 1) == 1 ? b.rank : -b.rank;
                if (Math.abs(gap) >= best) continue;
                best = Math.abs(gap);
                bestSet = set;
            }
            return what == 0 ? best : bestSet;
        }

        // ---- books, images

        int write(int d, int i) {
            if (!isDead(d) || !isYard(i)) return UNKNOWN;
            if (book.size() == 20) return FULL;
            book.add(new int[] {d, i});
            return book.size();
        }

        int tear() {
            int had = book.size();
            book.clear();
            return had;
        }

        int judge() {
            State was = now;
            now = now.copy();
            int answer = -1;
            for (int k = 0; k < book.size() && answer < 0; k++) {
                int d = book.get(k)[0];
                int i = book.get(k)[1];
                boolean right = now.frost.get(i) == 0 && orderAt(0) == d;
                if (!right || lay(d, i) < 0) answer = k;
            }
            now = was;
            return answer;
        }

        int seed(int v) {
            if (v < 0) return OUTSIDE;
            int was = (int) now.chance;
            now.chance = v;
            return was;
        }

        int keep(int i) {
            if (i < 0 || i > 1) return UNKNOWN;
            images[i] = now.copy();
            return 1;
        }

        int goBack(int i) {
            if (i < 0 || i > 1) return UNKNOWN;
            if (images[i] == null) return NOT;
            now = images[i].copy();
            return 1;
        }
    }

    private static final int[] ODD = {-2, -1, 7, 8, 9, 10, 11, 99, 100, 127, 128, 999, 1000, Integer.MIN_VALUE, Integer.MAX_VALUE};

    private static int wrong = 0;
    private final Random luck;
    private final Model model = new Model();
    private final LoftGraves real = new LoftGraves();
    private final StringBuilder story = new StringBuilder();
    private final boolean heavy;

    private ModelTest(int run) {
        luck = new Random(run);
        heavy = run % 10 == 0;
    }

    private int some(int low, int high) {
        if (luck.nextInt(25) == 0) return ODD[luck.nextInt(ODD.length)];
        return low + luck.nextInt(high - low + 1);
    }

    private boolean alike(String call, int got, int want) {
        story.append(call).append(" = ").append(got).append('\n');
        if (got == want) return true;
        wrong++;
        System.out.println(story + "due is " + want);
        return false;
    }

    private void tell(String text) {
        story.append("text '").append(text).append("'\n");
        int at = 0;
        while (at < text.length()) {
            int n = Math.min(1 + luck.nextInt(8), text.length() - at);
            long bytes = luck.nextLong();
            for (int k = 0; k < n; k++) bytes = bytes << 8 | text.charAt(at + k);
            alike("feed " + n, real.feed(n, bytes), model.feed(n, bytes));
            at += n;
        }
    }

    private String blanks() {
        return " ".repeat(luck.nextInt(4) == 0 ? luck.nextInt(3) : 0);
    }

    private int few(int most) {
        return luck.nextBoolean() ? luck.nextInt(Math.min(most, 3) + 1) : luck.nextInt(most + 1);
    }

    private String parishText() {
        List<String> parts = new ArrayList<>();
        int yards = luck.nextInt(9);
        int dead = luck.nextInt(heavy ? 8 : 6);
        if (luck.nextInt(3) > 0) parts.add("sun " + (1 + luck.nextInt(20)) + " " + luck.nextInt(21) + ";");
        for (int i = 0; i < yards; i++) parts.add("yard" + blanks() + " " + (luck.nextBoolean() ? 0 : luck.nextInt(100)) + ";");
        for (int d = 0; d < dead; d++) {
            parts.add("dead" + few(99) + " " + blanks() + few(999) + " " + few(9) + blanks() + ";");
        }
        java.util.Collections.shuffle(parts, luck);
        return spoiled(String.join("", parts));
    }

    private String customText() {
        List<String> parts = new ArrayList<>(List.of("rank;", "waits ;", " gifts;", "kin;"));
        java.util.Collections.shuffle(parts, luck);
        return spoiled(String.join(blanks(), parts.subList(0, luck.nextInt(5))));
    }

    private String spoiled(String text) {
        if (luck.nextInt(3) > 0) return text;
        String signs = "0123456789 ;;adnruskyt\n\u0000\u00ff";
        StringBuilder other = new StringBuilder(text);
        for (int k = luck.nextInt(3); k >= 0; k--) {
            int at = luck.nextInt(other.length() + 1);
            char sign = signs.charAt(luck.nextInt(signs.length()));
            int how = luck.nextInt(4);
            if (how == 0 || at == other.length()) other.insert(at, sign);
            else if (how == 1) other.deleteCharAt(at);
            else if (how == 2) other.setCharAt(at, sign);
            else other.append(other.substring(at, Math.min(other.length(), at + 20)));
        }
        return other.length() > 400 ? text : other.toString();
    }

    private boolean talk() {
        if (luck.nextInt(6) == 0 || model.now.dead.isEmpty() && luck.nextBoolean()) {
            tell(parishText());
            return alike("parish", real.parish(), model.parish()) && alike("fault", real.fault(), model.faultPlace);
        }
        tell(customText());
        return alike("custom", real.custom(), model.custom()) && alike("fault", real.fault(), model.faultPlace);
    }

    private boolean looks() {
        for (int what = 0; what < 10; what++) if (!alike("told " + what, real.told(what), model.told(what))) return false;
        for (int i = -1; i < 9; i++) {
            if (!alike("order " + i, real.order(i), model.orderAt(i))) return false;
            for (int what = -1; what < 3; what++) if (!alike("yard " + i + " " + what, real.yard(i, what), model.yard(i, what))) return false;
            for (int what = -1; what < 10; what++) if (!alike("dead " + i + " " + what, real.dead(i, what), model.dead(i, what))) return false;
        }
        return true;
    }

    private boolean acts() {
        int d = some(0, 6), i = some(0, 7), v;
        switch (luck.nextInt(15)) {
            case 0: v = some(0, 99); return alike("letter " + d + " " + v, real.letter(d, v), model.letter(d, v));
            case 1: v = some(1, luck.nextBoolean() ? 4 : 999); return alike("gift " + d + " " + v, real.gift(d, v), model.gift(d, v));
            case 2: return luck.nextInt(3) > 0 || alike("knock " + d, real.knock(d), model.knock(d));
            case 3: case 4: v = some(-9, 9); return alike("day " + v, real.day(v), model.day(v));
            case 5: v = some(0, 10); int n = some(1, 5); return alike("rats " + n + " " + v, real.rats(n, v), model.rats(n, v));
            case 6: case 7: return alike("lay " + d + " " + i, real.lay(d, i), model.lay(d, i));
            case 8: v = some(0, 2); int t = some(1, 4); return luck.nextInt(3) > 0 || alike("spring " + t + " " + v, real.spring(t, v), model.spring(t, v));
            case 9: v = some(0, 6); return alike("label " + d + " " + v, real.label(d, v), model.label(d, v));
            case 10: v = luck.nextInt(1 << Math.max(1, model.now.dead.size())) | luck.nextInt(128) & some(0, 127); return alike("mark " + d + " " + v, real.mark(d, v), model.mark(d, v));
            case 11: return alike("write " + d + " " + i, real.write(d, i), model.write(d, i));
            case 12: v = luck.nextInt(8) == 0 ? luck.nextInt() : some(0, 1); return alike("seed " + v, real.seed(v), model.seed(v));
            case 13: v = some(0, 1); return alike("keep " + v, real.keep(v), model.keep(v));
            default: v = some(0, 1); return alike("goBack " + v, real.goBack(v), model.goBack(v));
        }
    }

    /** One is given so much that the count comes to its end, and a while behind it; then a BRIBE is asked there. */
    private boolean givesMuch() {
        int d = some(0, 6), p = some(0, 6);
        for (int k = 8 + luck.nextInt(5); k > 0; k--) {
            int n = 800 + luck.nextInt(200);
            if (!alike("gift " + d + " " + n, real.gift(d, n), model.gift(d, n))) return false;
        }
        return alike("bribe " + d + " " + p, real.bribe(d, p), model.bribe(d, p));
    }

    private boolean asks() {
        int d = some(0, 6);
        int n = some(1, 8), a = some(1, 9), b = some(1, 9), what = some(0, 1);
        switch (luck.nextInt(12)) {
            case 0: return alike("offended " + d, real.offended(d), model.offended(d));
            case 1: return alike("quarrels", real.quarrels(), model.quarrels());
            case 2: case 3: return asksLaying();
            case 4: return alike("when " + n + " " + a, real.when(n, a), model.when(n, a));
            case 5: return alike("span " + n + " " + a + " " + b + " " + what, real.span(n, a, b, what), model.span(n, a, b, what));
            case 6: int p = some(0, 6); return alike("bribe " + d + " " + p, real.bribe(d, p), model.bribe(d, p));
            case 7: return alike("fits", real.fits(), model.fits());
            case 8: return asksMixed();
            case 9: return alike("churches " + what, real.churches(what), model.churches(what));
            case 10: return asksBook();
            default: return luck.nextInt(8) > 0 || alike("tear", real.tear(), model.tear());
        }
    }

    private boolean asksLaying() {
        if (model.loft().size() > 4 && luck.nextInt(6) > 0) return true;
        for (int d = -2; d < 8; d++) {
            if (model.loft().size() > 5 && d > -1 && luck.nextInt(4) > 0) continue;
            if (!alike("laying " + d, real.laying(d), model.laying(d))) return false;
        }
        return true;
    }

    private boolean asksMixed() {
        for (int c = -2; c < 8; c++) if (!alike("mixed " + c, real.mixed(c), model.mixed(c))) return false;
        return true;
    }

    /** A book that goes right for a while, and then by draws. */
    private boolean asksBook() {
        State was = model.now;
        model.now = was.copy();
        alike("tear", real.tear(), model.tear());
        for (int k = luck.nextInt(5); k > 0 && model.orderAt(0) >= 0 && !model.softAndFree().isEmpty(); k--) {
            int d = model.orderAt(0), i = model.softAndFree().get(luck.nextInt(model.softAndFree().size()));
            alike("write " + d + " " + i, real.write(d, i), model.write(d, i));
            model.lay(d, i);
        }
        model.now = was;
        return alike("judge", real.judge(), model.judge());
    }

    private boolean run() {
        if (!looks()) return false;
        for (int call = 0; call < CALLS; call++) {
            int kind = luck.nextInt(40);
            boolean fine = kind == 0 || call == 0 ? talk() : kind == 1 && luck.nextInt(6) == 0 ? givesMuch() : kind < 22 ? acts() : kind < 38 ? asks() : looks();
            if (!fine) return false;
        }
        return looks();
    }

    public static void main(String[] args) {
        int runs = args.length > 0 ? Integer.parseInt(args[0]) : RUNS;
        for (int run = 0; run < runs && wrong == 0; run++) new ModelTest(run).run();
        if (wrong != 0) System.exit(1);
        System.out.println(runs + " runs are as the model's");
    }
}
