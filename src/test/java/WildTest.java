import java.util.Random;

/** Any numbers in any state: no call throws, and what answers NONE changes nothing; calls make no objects. */
public final class WildTest {
    private static final Due due = new Due();
    private static final int[] EDGES = {Integer.MIN_VALUE, Integer.MIN_VALUE + 1, -100, -11, -10, -9, -3, -2, -1, 0, 1, 2, 3, 4, 5, 6, 7, 8, 9, 10, 11, 12,
        19, 20, 29, 30, 31, 32, 33, 59, 60, 61, 63, 64, 499, 500, 501, 1000, 1001, 1599, 1600, 1601, 99999, 100000, 100001, Integer.MAX_VALUE - 1, Integer.MAX_VALUE};
    private static final String SCHOOL = "step a takes 1 loud 0;step b takes 9 loud 9 still;step c takes 3 loud 4 left;step d takes 2 loud 4 right;step e takes 1 loud 1;step f takes 1 loud 9;"
        + "letter a a;letter b b b b b b;letter c c d;letter d d c;letter e e;letter f f e;letter g a a a;letter h c;letter i d;letter j b;"
        + "ear a floors 0;ear b floors 4;ear c floors 9;ear d floors 1 book a e h i;";

    private final Random random;

    private WildTest(int seed) {
        random = new Random(seed);
    }

    public static void main(String[] args) {
        for (int seed = 0; seed < 400; seed++) {
            LimpCode x = seed % 10 == 0 ? new LimpCode() : Due.taught(SCHOOL);
            new WildTest(seed).run(x);
        }
        makesNothing();
        due.finish();
    }

    private int any() {
        return random.nextInt(3) > 0 ? random.nextInt(4) : EDGES[random.nextInt(EDGES.length)];
    }

    private void run(LimpCode x) {
        for (int i = 0; i < 480; i++) {
            int kind = random.nextInt(29);
            long[] before = state(x);
            long got = call(x, kind);
            boolean doesNothing = got == -1 && (kind <= 1 || kind >= 4 && kind <= 6 || kind == 11 || kind >= 20 && kind <= 23 || kind >= 26);
            if (doesNothing) {
                long[] after = state(x);
                for (int k = 0; k < before.length; k++) {
                    due.is("state " + k + " behind a call of kind " + kind + " that answered NONE", after[k], before[k]);
                }
            }
        }
    }

    private static long[] state(LimpCode x) {
        long[] all = new long[12];
        for (int what = 0; what < 12; what++) {
            all[what] = x.about(what);
        }
        return all;
    }

    private long call(LimpCode x, int kind) {
        int a = any();
        int b = any();
        int c = any();
        int d = any();
        switch (kind) {
            case 0: return x.feed(a, b, c, d, any());
            case 1: return x.end(a);
            case 2: return random.nextInt(40) == 0 ? x.school() : 0;
            case 3: return x.fault(a);
            case 4: return x.step(a);
            case 5: return x.say(a);
            case 6: return x.image(a);
            case 7: return random.nextInt(5) == 0 ? x.stop() : 0;
            case 8: return x.heard(a, b);
            case 9: return x.reads(a, b);
            case 10: return x.stuck(a);
            case 11: return x.tell(a, b);
            case 12: return x.alike(a, b, c, d);
            case 13: return x.hush(a > 1 ? a : a - 1);
            case 14: return x.doubled(a, b);
            case 15: return x.secret(a, b, c);
            case 16: return x.lies(a);
            case 17: return x.timed(a, b);
            case 18: return x.dealt();
            case 19: return x.limp(a);
            case 20: return x.cobble(a, b);
            case 21: return x.sound(a, b, c, d);
            case 22: return x.untell(a) ? 1 : -1;
            case 23: return x.later(a);
            case 24: return x.meant(a, b);
            case 25: return x.can(a, b, c);
            case 26: return x.back(a);
            case 27: return x.tell(a & 1, random.nextInt(10));
            default: return x.step(random.nextInt(6));
        }
    }

    /** All calls of one run live in one room: what they use is made with the object. */
    private static void makesNothing() {
        var threads = (com.sun.management.ThreadMXBean) java.lang.management.ManagementFactory.getThreadMXBean();
        WildTest wild = new WildTest(1);
        LimpCode x = Due.taught(SCHOOL);
        threads.getThreadAllocatedBytes(Thread.currentThread().getId());
        long before = threads.getThreadAllocatedBytes(Thread.currentThread().getId());
        for (int i = 0; i < 20000; i++) {
            wild.call(x, wild.random.nextInt(29));
        }
        long made = threads.getThreadAllocatedBytes(Thread.currentThread().getId()) - before;
        due.is("bytes made by 20,000 calls (" + made + ") are few", made < 20000 ? 1 : 0, 1);
    }
}
