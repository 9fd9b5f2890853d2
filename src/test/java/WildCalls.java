import java.lang.management.ManagementFactory;
import java.util.Random;

/** Calls with any arguments in any state: none may throw, a refused one changes nothing, and the room stays small. */
public final class WildCalls extends Checks {
    private static final int[] INTS = {Integer.MIN_VALUE, -2, -1, 0, 1, 2, 3, 4, 5, 6, 7, 8, 9, 11, 12, 23, 24, 40, 41, 63,
        64, 65, 95, 96, 200, 201, 255, 256, 1279, 1280, 1500, 1501, 3000, 3001, Integer.MAX_VALUE};
    private static final long[] LONGS = {Long.MIN_VALUE, -1, 0, 1, 2, 0x2000000000000000L, 0x3FFFFFFFFFFFFFFFL,
        0x2001000000000000L, 0x2001000000010000L, 0xFE80000000000000L, 0xFF02000000000000L, 0x020000000001L,
        0xFFFFFFFFFFFFL, 0x1000000000000L, Long.MAX_VALUE};
    private static final int KINDS = 29;
    /** Some more than the 512 of which anything is promised: none of them may throw either. */
    private static final int CALLS = 700;
    private static final int PROMISED = 512;
    private final Random random;
    private final Net x;
    private boolean hasStatus = true;

    private WildCalls(long seed, boolean endless) {
        random = new Random(seed);
        x = new Net(endless);
    }

    private int some() {
        return random.nextInt(3) == 0 ? INTS[random.nextInt(INTS.length)] : random.nextInt(6);
    }

    private long more() {
        return random.nextInt(3) == 0 ? random.nextLong() : LONGS[random.nextInt(LONGS.length)];
    }

    private long call(int which) {
        boolean yes = random.nextBoolean();
        hasStatus = which != 13 && which != 28;
        switch (which) {
            case 0: return x.node(yes);
            case 1: return x.link(0x2000000000000000L | more(), some());
            case 2: return x.attach(some(), some(), yes ? more() : 0x020000000000L + random.nextInt(99), more());
            case 3: return x.own(some(), more(), some());
            case 4: return x.message(some(), some(), some(), some());
            case 5: return x.echo(some(), more(), more(), some());
            case 6: return x.tick(some());
            case 7: return x.deliver(some());
            case 8: return x.drop(some());
            case 9: return x.twice(some());
            case 10: return x.hurry(some());
            case 11: return x.raise(some(), yes);
            case 12: return x.bytes(some(), some());
            case 13: return x.frames();
            case 14: return x.frame(some(), some());
            case 15: return x.face(some(), some());
            case 16: return x.id(some(), some());
            case 17: return x.entry(some(), some(), some());
            case 18: return x.routes(some());
            case 19: return x.route(some(), some(), some());
            case 20: return x.way(some(), more());
            case 21: return x.heard(some(), some());
            case 22: return x.got(some(), some(), some(), some());
            case 23: return x.sent(some(), some(), some());
            case 24: return x.mtu(some(), more(), more());
            case 25: return x.count(some(), some());
            case 26: return x.world(some());
            case 27: return x.link(0x2001000000000000L + (random.nextInt(4) << 16), 1280 + random.nextInt(221));
            default: return x.status();
        }
    }

    private int someKind() {
        return random.nextInt(4) == 0 ? 6 + 4 * random.nextInt(2) : random.nextInt(KINDS);
    }

    private void runOn() {
        for (int i = 1; i <= CALLS; i++) {
            int which = someKind();
            long answer = call(which);
            if (2 * i < PROMISED && hasStatus && x.status() != 0 && answer != -1) {
                complain("call " + which + " was refused and answered " + answer);
            }
        }
    }

    private void lookClosely() {
        for (int i = 0; i < 150; i++) {
            int which = someKind();
            String before = picture(x);
            long answer = call(which);
            if (hasStatus && x.status() != 0) {
                if (answer != -1) {
                    complain("call " + which + " was refused and answered " + answer);
                }
                if (!picture(x).equals(before)) {
                    complain("call " + which + " was refused and changed something");
                }
            }
        }
    }

    /** The dearest run: everything that can be made is made, and every call makes frames fly. */
    private static void dear() {
        SixNet x = new SixNet();
        for (int i = 0; i < 12; i++) {
            x.node(i % 3 == 0);
        }
        for (int i = 0; i < 4; i++) {
            x.link(0x2001000000000000L + (i << 16), i % 2 == 0 ? 1500 : 1280);
        }
        for (int i = 0; i < 24; i++) {
            x.attach(i % 12, (i * 5 + i / 12) % 4, 0x020000000001L + i, 1 + i);
        }
        for (int i = 0; i < 20; i++) {
            x.tick(1);
            x.hurry(200);
        }
        for (int i = 0; i < 60; i++) {
            x.own(i % 4 * 3, 0x3000000000000000L + ((long) i << 40), 40);
            x.message(1 + i % 2, 10 + i % 2, 3000, i);
        }
        for (int i = 0; i < 300; i++) {
            x.echo(i % 12, 0x2001000000000000L + (i % 4 << 16), 1 + i % 90, 3000);
            x.hurry(200);
            if (i % 7 == 0) {
                x.tick(1 + i % 40);
            }
        }
    }

    private static void measure() {
        com.sun.management.ThreadMXBean threads = (com.sun.management.ThreadMXBean) ManagementFactory.getThreadMXBean();
        dear();
        long me = Thread.currentThread().getId();
        long before = threads.getThreadAllocatedBytes(me);
        dear();
        long used = threads.getThreadAllocatedBytes(me) - before;
        System.out.println("the dearest run makes " + used + " bytes of objects");
        if (used > 1_000_000) {
            complain("that is more than a million");
        }
    }

    public static void main(String[] args) {
        says("No call may ever throw or fail to end, for any arguments in any state");
        for (int seed = 1; seed <= 300; seed++) {
            new WildCalls(seed, true).runOn();
        }
        says("of a refused call, which answers -1 and changes nothing else");
        for (int seed = 1; seed <= 60; seed++) {
            new WildCalls(1000 + seed, false).lookClosely();
        }
        says("All calls of one run live in one room");
        measure();
        end();
    }
}
