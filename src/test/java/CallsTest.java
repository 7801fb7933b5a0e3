import java.lang.management.ManagementFactory;

/** An object is used for at most 512 calls: it answers the 512th as the first, and makes little on the way. */
public final class CallsTest extends Told {
    private static final int MOST_CALLS = 512;
    private static final int MOST_BYTES = 4_000_000;

    private static long made() {
        com.sun.management.ThreadMXBean threads =
                (com.sun.management.ThreadMXBean) ManagementFactory.getThreadMXBean();
        return threads.getThreadAllocatedBytes(Thread.currentThread().getId());
    }

    private static void madeLittleSince(long before) {
        long bytes = made() - before;
        must("little is made: " + bytes, bytes < MOST_BYTES);
    }

    static void refusedTillTheLast() {
        HoldWorlds x = new HoldWorlds();
        for (int call = 1; call < MOST_CALLS; call++) {
            due("call " + call, x.sure(7), -2);
        }
        due("call 512", x.count(12), MOST_CALLS - 1);
    }

    static void rulesReadTillTheLast() {
        HoldWorlds x = new HoldWorlds();
        long before = made();
        int call = 0;
        for (int rules = 0; rules < 30; rules++) {
            due("in two feeds", feed(x, "a:b,b,b,b,b,b,b"), 15);
            due("rule", x.rule(), rules);
            call += 3;
        }
        while (call < MOST_CALLS - 2) {
            due("in one feed", feed(x, "a:b,!b"), 6);
            due("full", x.rule(), -6);
            due("a wish it is not", x.wish(0, 1), -20);
            call += 3;
        }
        due("call 511", x.feed(1, 'a'), 1);
        due("call 512", x.rule(), -6);
        due("so many calls", call + 2, MOST_CALLS);
        madeLittleSince(before);
    }

    static void faultsTillTheLast() {
        HoldWorlds x = new HoldWorlds();
        long before = made();
        for (int call = 2; call <= MOST_CALLS; call += 2) {
            due("in one feed", feed(x, ":a,a,!b,"), 8);
            due("a fault", x.rule(), -28);
        }
        madeLittleSince(before);
    }

    static void worldsSoughtTillTheLast() {
        HoldWorlds x = ofAtoms(10, "{b,c,d,e,f,g}", "{h,i}", "j|a:b");
        int call = 1 + 3 + 2 + 2;
        long before = made();
        boolean in = true;
        while (call + 2 <= MOST_CALLS) {
            in = !in;
            due("put", x.put(2, in), 1);
            due("worlds", x.worlds(), in ? 384 : 256);
            call += 2;
        }
        due("so many calls", call, MOST_CALLS);
        madeLittleSince(before);
    }

    /** Every set must be looked at for every way to take six rules out, for there is no world at all. */
    static void amendsTillTheLast() {
        HoldWorlds x = ofAtoms(10, "a|b|c|d", "e|f:a", "g|h|i:b", "b:e", "a:f", "j|c:d", "d:j", "e:g", ":!a,!j", ":a",
                ":j", "{a,j}");
        for (int r = 1; r <= 6; r++) {
            x.doubt(r, true);
        }
        int used = 1 + 2 * 12 + 6;
        long before = made();
        for (int call = used + 1; call <= MOST_CALLS; call++) {
            due("call " + call, x.amends(), -9);
        }
        madeLittleSince(before);
    }

    static void askedTillTheLast() {
        int used = 28;
        int[] want = new int[MOST_CALLS + 1];
        for (int call = used + 1; call <= MOST_CALLS; call++) {
            want[call] = asked(busy(), call);
        }
        HoldWorlds x = busy();
        long before = made();
        for (int call = used + 1; call <= MOST_CALLS; call++) {
            due("as one that is asked this alone, call " + call, asked(x, call), want[call]);
        }
        madeLittleSince(before);
    }

    private static int asked(HoldWorlds x, int call) {
        int set = call / 8 % 16;
        switch (call % 8) {
            case 0: return x.world(set);
            case 1: return x.step(set, set % 4);
            case 2: return x.unheld(set);
            case 3: return x.shown(set);
            case 4: return x.even(set);
            case 5: return x.best(set % 2);
            case 6: return x.bound(set % 2);
            default: return x.why(set, set % 4);
        }
    }

    public static void main(String[] args) throws ReflectiveOperationException {
        runAll(CallsTest.class);
    }
}
