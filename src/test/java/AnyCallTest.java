import java.lang.management.ManagementFactory;
import java.util.Random;

/** Calls with any arguments in any state: none throws, refusals change nothing, and calls make no objects. */
public final class AnyCallTest {
    private static final int[] ANY = {
        Integer.MIN_VALUE, Integer.MIN_VALUE + 1, -1000000004, -1000000001, -65536, -400, -32, -10, -9, -8, -2, -1, 0, 1, 2, 3, 4, 5, 6,
        7, 8, 9, 10, 11, 12, 19, 20, 21, 31, 32, 33, 63, 64, 98, 99, 100, 127, 128, 399, 400, 999, 1000, 9999, 65536,
        Integer.MAX_VALUE - 1, Integer.MAX_VALUE
    };
    private static final String FULL_PARISH = "sun 20 20;" + "yard 99;yard 0;".repeat(4) + "dead 99 999 9;".repeat(7);
    private static final int CALLS_OF_AN_OBJECT = 512;

    private static int wrong = 0;

    private static int any(Random luck) {
        return luck.nextInt(3) == 0 ? luck.nextInt(10) - 1 : ANY[luck.nextInt(ANY.length)];
    }

    private static int call(LoftGraves x, int which, int a, int b, int c, int d) {
        switch (which) {
            case 0: return x.feed(a, (long) b << 32 ^ c);
            case 1: return x.parish();
            case 2: return x.custom();
            case 3: return x.fault();
            case 4: return x.told(a);
            case 5: return x.yard(a, b);
            case 6: return x.dead(a, b);
            case 7: return x.order(a);
            case 8: return x.letter(a, b);
            case 9: return x.gift(a, b);
            case 10: return x.knock(a);
            case 11: return x.day(a);
            case 12: return x.rats(a, b);
            case 13: return x.lay(a, b);
            case 14: return x.spring(a, b);
            case 15: return x.offended(a);
            case 16: return x.quarrels();
            case 17: return x.laying(a);
            case 18: return x.when(a, b);
            case 19: return x.span(a, b, c, d);
            case 20: return x.bribe(a, b);
            case 21: return x.label(a, b);
            case 22: return x.mark(a, b);
            case 23: return x.fits();
            case 24: return x.mixed(a);
            case 25: return x.churches(a);
            case 26: return x.write(a, b);
            case 27: return x.tear();
            case 28: return x.judge();
            case 29: return x.seed(a);
            case 30: return x.keep(a);
            default: return x.goBack(a);
        }
    }

    /** All that can be asked without a change, in one number. */
    private static long look(LoftGraves x) {
        long sum = 0;
        for (int what = 0; what < 10; what++) sum = sum * 31 + x.told(what);
        for (int i = 0; i < 8; i++) {
            sum = sum * 31 + x.order(i);
            for (int what = 0; what < 9; what++) sum = (sum * 31 + x.yard(i, what)) * 31 + x.dead(i, what);
        }
        return ((sum * 31 + x.quarrels()) * 31 + x.judge()) * 31 + x.fault();
    }

    private static void feed(LoftGraves x, String text) {
        for (int i = 0; i < text.length(); i++) x.feed(1, text.charAt(i));
    }

    private static void runByDraws(int run) {
        Random luck = new Random(run);
        LoftGraves x = new LoftGraves();
        if (run % 4 != 0) {
            feed(x, FULL_PARISH);
            x.parish();
        }
        for (int n = 0; n < CALLS_OF_AN_OBJECT; n++) {
            int which = luck.nextInt(32);
            if (which == 1 && luck.nextInt(8) > 0) continue;
            long before = look(x);
            int answer = call(x, which, any(luck), any(luck), any(luck), any(luck));
            if (answer >= -13 || look(x) == before) continue;
            wrong++;
            System.out.println("run " + run + ": the refusal " + answer + " of call " + which + " changed something");
        }
    }

    /** The dearest state: seven in the loft, eight soft yards; each call again and again. */
    private static LoftGraves dearest() {
        LoftGraves x = new LoftGraves();
        feed(x, "yard 0;".repeat(8) + "dead 5 5 5;".repeat(7));
        x.parish();
        feed(x, "kin;gifts;waits;rank;");
        x.custom();
        return x;
    }

    private static void checkRoom() {
        com.sun.management.ThreadMXBean threads = (com.sun.management.ThreadMXBean) ManagementFactory.getThreadMXBean();
        long id = Thread.currentThread().getId();
        for (int which = 0; which < 32; which++) {
            LoftGraves x = dearest();
            call(x, which, 1, 1, 2, 1);
            long before = threads.getThreadAllocatedBytes(id);
            for (int n = 0; n < 100; n++) call(x, which, which == 17 || which == 24 ? -1 : 1, 1, 2, 1);
            long made = threads.getThreadAllocatedBytes(id) - before;
            if (made < 4000) continue;
            wrong++;
            System.out.println("call " + which + " made " + made + " bytes of objects in 100 calls");
        }
    }

    public static void main(String[] args) {
        for (int run = 0; run < 400; run++) runByDraws(run);
        checkRoom();
        if (wrong != 0) System.exit(1);
        System.out.println("no call throws, no refusal changes anything, no call makes objects");
    }
}
