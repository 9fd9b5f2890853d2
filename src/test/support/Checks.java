import java.util.function.ToLongFunction;

/** What the tests share: answers that are due, small worlds, and the bytes of frames. */
abstract class Checks {
    static final long P = 0x2001000000000000L;
    static final long Q = 0x2001000000010000L;
    static final long R = 0x2001000000020000L;
    static final long S = 0x2001000000030000L;
    static final long LOCAL = 0xFE80000000000000L;
    /** A MAC is MAC + n in the worlds here; LOW of its LOCAL ADDRESS is EUI + n. */
    static final long MAC = 0x020000000000L;
    static final long EUI = 0xFFFE000000L;
    static final long TO_ALL = 0x333300000001L;
    static final long TO_ROUTERS = 0x333300000009L;

    static final int UNREACHABLE = 1;
    static final int TOO_BIG = 2;
    static final int OUT_OF_TIME = 3;
    static final int ECHO = 128;
    static final int REPLY = 129;
    static final int ADVERT = 134;
    static final int ASK = 135;
    static final int TELL = 136;
    /** Those of no TYPE, by what NEXT tells, far from any TYPE. */
    static final int DATAGRAM = 1017;
    static final int FRAGMENT = 1044;
    static final int MESSAGES = 1253;

    static final int OPEN = 0;
    static final int GOOD = 1;
    static final int OLD = 2;
    static final int WAITING = 3;
    static final int ASKED = 4;

    static final String ZERO8 = "0000000000000000";
    static final String MANY = "FF02000000000000";

    private static int wrong = 0;
    private static int checked = 0;
    private static String sentence = "";

    // ---- what is due

    /** The words of the document that the checks from here on are about. */
    static void says(String words) {
        sentence = words;
    }

    static void complain(String what) {
        wrong++;
        System.out.println("\"" + sentence + "\": " + what);
    }

    static void due(String what, long got, long want) {
        checked++;
        if (got != want) {
            complain(what + " answered " + got + ", due is " + want);
        }
    }

    static void due(String what, String got, String want) {
        checked++;
        if (!got.equals(want)) {
            complain(what + " answered\n  " + got + ", due is\n  " + want);
        }
    }

    static void taken(Net x, String what, long got, long want) {
        due(what, got, want);
        due(what + ", STATUS", x.status(), 0);
    }

    static void refused(Net x, String what, long got, int why) {
        due(what, got, SixNet.BAD);
        due(what + ", STATUS", x.status(), why);
    }

    /** The call is refused, and changes nothing that can be seen now or a tick later. */
    static void refuses(Net x, String what, int why, ToLongFunction<Net> call) {
        String before = pictures(x);
        refused(x, what, call.applyAsLong(x), why);
        due(what + ", what it left", pictures(x), before);
    }

    static void dueEntry(Net x, int i, int j, long... want) {
        for (int what = 0; what < want.length; what++) {
            taken(x, "entry(" + i + ", " + j + ", " + what + ")", x.entry(i, j, what), want[what]);
        }
    }

    static void dueRoute(Net x, int node, int j, long... want) {
        for (int what = 0; what < want.length; what++) {
            taken(x, "route(" + node + ", " + j + ", " + what + ")", x.route(node, j, what), want[what]);
        }
    }

    static void end() {
        System.out.println(wrong == 0 ? "all " + checked + " answers are as due" : wrong + " answers are not as due");
        if (wrong != 0) {
            System.exit(1);
        }
    }

    // ---- pictures of a world

    private static String pictures(Net x) {
        Net later = x.fork();
        later.tick(1);
        return picture(x.fork()) + "\na tick later " + picture(later);
    }

    static String picture(Net x) {
        StringBuilder all = new StringBuilder();
        for (int what = 0; what < 7; what++) {
            all.append(x.world(what)).append(' ');
        }
        for (int k = 0; k < x.frames(); k++) {
            all.append("\nframe ").append(x.frame(k, 0)).append(' ').append(x.frame(k, 1)).append(' ');
            all.append(x.frame(k, 2)).append(' ').append(x.bytes(k, 0)).append(' ').append(x.bytes(k, 54));
        }
        for (int i = 0; i < x.world(3); i++) {
            faceTo(all, x, i);
        }
        for (int n = 0; n < x.world(1); n++) {
            nodeTo(all, x, n);
        }
        return all.toString();
    }

    private static void faceTo(StringBuilder all, Net x, int i) {
        all.append("\nface");
        for (int what = 0; what < 5; what++) {
            all.append(' ').append(x.face(i, what));
        }
        for (int j = 0; j < x.face(i, 3); j++) {
            all.append(',');
            for (int what = 0; what < 6; what++) {
                all.append(' ').append(x.entry(i, j, what));
            }
        }
    }

    private static void nodeTo(StringBuilder all, Net x, int n) {
        all.append("\nnode");
        for (int what = 0; what < 9; what++) {
            all.append(' ').append(x.count(n, what));
        }
        for (int j = 0; j < x.routes(n); j++) {
            all.append(',');
            for (int what = 0; what < 6; what++) {
                all.append(' ').append(x.route(n, j, what));
            }
        }
        for (int other = 0; other < x.world(1); other++) {
            all.append(';').append(x.heard(n, other));
            for (int what = 0; what < 4; what++) {
                all.append(' ').append(x.sent(n, other, what));
            }
        }
    }

    // ---- worlds

    /** HOST 0, ROUTER 1, HOST 2 on one LINK, as INTERFACES 0, 1, 2 with IDS 17, 1, 34. */
    static Net lan(int mtu) {
        Net x = new Net();
        x.node(false);
        x.node(true);
        x.node(false);
        x.link(P, mtu);
        x.attach(0, 0, MAC + 1, 0x11);
        x.attach(1, 0, MAC + 2, 1);
        x.attach(2, 0, MAC + 3, 0x22);
        return x;
    }

    /** The same at tick 3, with ADDRESSES, nothing in flight. */
    static Net settledLan(int mtu) {
        Net x = lan(mtu);
        x.tick(1);
        x.hurry(9);
        x.tick(2);
        return x;
    }

    /** HOST 0 on LINK 0, ROUTER 1 on both as INTERFACES 1 and 2, HOST 2 on LINK 1; at tick 3, nothing in flight. */
    static Net twoLinks(int firstMtu, int secondMtu) {
        Net x = new Net();
        x.node(false);
        x.node(true);
        x.node(false);
        x.link(P, firstMtu);
        x.link(Q, secondMtu);
        x.attach(0, 0, MAC + 1, 0x11);
        x.attach(1, 0, MAC + 2, 1);
        x.attach(1, 1, MAC + 4, 1);
        x.attach(2, 1, MAC + 3, 0x22);
        x.tick(1);
        x.hurry(20);
        x.tick(2);
        return x;
    }

    /** ROUTERS alone, each with an INTERFACE on the one LINK: INTERFACE i of ROUTER i has ID i + 1, MAC + i + 1. */
    static Net routers(int count) {
        Net x = new Net();
        x.link(P, 1500);
        for (int i = 0; i < count; i++) {
            x.node(true);
            x.attach(i, 0, MAC + 1 + i, 1 + i);
        }
        return x;
    }

    // ---- frames

    static String hex(Net x, int k) {
        StringBuilder all = new StringBuilder();
        int length = x.frame(k, 3);
        for (int i = 0; i < length; i += 8) {
            all.append(String.format("%016X", x.bytes(k, i)));
        }
        all.setLength(2 * length);
        return all.toString();
    }

    /** The PACKET of a frame, without MACS and 86DD. */
    static String packet(Net x, int k) {
        return hex(x, k).substring(28);
    }

    private static int at(String hex, int i) {
        return Integer.parseInt(hex.substring(2 * i, 2 * i + 2), 16);
    }

    /** The bytes of a frame with dots for its CHECKSUM, which must hold. */
    static String plain(Net x, int k, int sumAt) {
        String h = hex(x, k);
        int sum = at(h, 20) + (h.length() / 2 - 54);
        for (int i = 14 + 8; i < h.length() / 2; i++) {
            sum += i % 2 == 0 ? at(h, i) << 8 : at(h, i);
        }
        while (sum > 0xFFFF) {
            sum = (sum & 0xFFFF) + (sum >> 16);
        }
        due("CHECKSUM of frame " + k, sum, 0xFFFF);
        return h.substring(0, 2 * sumAt) + "...." + h.substring(2 * sumAt + 4);
    }

    static String of(long value, int size) {
        return String.format("%016X", value).substring(16 - 2 * size);
    }

    static String header(long macTo, long macFrom, int rest, int next, int hops) {
        return of(macTo, 6) + of(macFrom, 6) + "86DD60000000" + of(rest, 2) + of(next, 1) + of(hops, 1);
    }

    static String address(long high, long low) {
        return of(high, 8) + of(low, 8);
    }

    static int byteOf(Net x, int k, int i) {
        return (int) (x.bytes(k, i) >>> 56);
    }

    /** TYPE of a CONTROL, or what NEXT tells and 1000. */
    static int typeOf(Net x, int k) {
        int next = byteOf(x, k, 20);
        return next == 58 ? byteOf(x, k, 54) : 1000 + next;
    }

    /** The place of the first frame of this TYPE, -1 if there is none. */
    static int find(Net x, int type) {
        return findFrom(x, type, -1);
    }

    /** The same, of those that the INTERFACE sent. */
    static int findFrom(Net x, int type, int face) {
        for (int k = 0; k < x.frames(); k++) {
            if (typeOf(x, k) == type && (face < 0 || x.frame(k, 1) == face)) {
                return k;
            }
        }
        return -1;
    }

    static int countOf(Net x, int type) {
        int count = 0;
        for (int k = 0; k < x.frames(); k++) {
            count += typeOf(x, k) == type ? 1 : 0;
        }
        return count;
    }

    static void dropAll(Net x) {
        while (x.frames() > 0) {
            x.drop(x.frames() - 1);
        }
    }

    /** All of this TYPE vanish. */
    static void dropType(Net x, int type) {
        for (int k = x.frames() - 1; k >= 0; k--) {
            if (typeOf(x, k) == type) {
                x.drop(k);
            }
        }
    }

    /** All vanish but those of this TYPE. */
    static void keepType(Net x, int type) {
        for (int k = x.frames() - 1; k >= 0; k--) {
            if (typeOf(x, k) != type) {
                x.drop(k);
            }
        }
    }

    /** Till this tick, by single ones, each frame dropped. */
    static void quietTicks(Net x, int till) {
        while (x.world(0) < till) {
            x.tick(1);
            dropAll(x);
        }
    }

    /** Till this tick, by single ones, each frame brought. */
    static void busyTicks(Net x, int till) {
        while (x.world(0) < till) {
            x.tick(1);
            x.hurry(200);
        }
    }
}
