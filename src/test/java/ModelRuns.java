import java.io.ByteArrayOutputStream;
import java.util.ArrayList;
import java.util.Arrays;
import java.util.List;
import java.util.Random;

/**
 * Random runs against a second, plain reading of the document: it makes new lists and arrays wherever it likes and
 * calls itself freely, so that a slip in how SixNet uses its rows again shows. After each call the numbers of the world
 * are compared, and now and then all that can be asked.
 */
public final class ModelRuns {
    private static final long LOCAL = 0xFE80000000000000L;
    private static final long MANY = 0xFF02000000000000L;
    private static final int RUNS = 400;
    private static final int STEPS = 160;
    /** So much may be told to one object that there are calls left to ask it. */
    private static final int LONGEST_STORY = 400;
    private static final int STEPS_FOR_ALL = 12;

    // ---- the plain reading

    record Address(long high, long low) {
        static final Address NONE = new Address(0, 0);

        boolean many() {
            return high >>> 56 == 255;
        }

        Address group() {
            return new Address(MANY, 0x1FF000000L | low & 0xFFFFFF);
        }

        long manyMac() {
            return 0x333300000000L | low & 0xFFFFFFFFL;
        }
    }

    static final class Writer {
        final ByteArrayOutputStream to = new ByteArrayOutputStream();

        Writer put(long value, int size) {
            for (int i = size - 1; i >= 0; i--) {
                to.write((int) (value >> 8 * i));
            }
            return this;
        }

        Writer put(Address a) {
            return put(a.high, 8).put(a.low, 8);
        }

        Writer put(byte[] b, int from, int until) {
            to.write(b, from, until - from);
            return this;
        }

        byte[] done() {
            return to.toByteArray();
        }
    }

    static long read(byte[] b, int at, int size) {
        long value = 0;
        for (int i = 0; i < size; i++) {
            value = value * 256 + (b[at + i] & 255);
        }
        return value;
    }

    static Address address(byte[] b, int at) {
        return new Address(read(b, at, 8), read(b, at + 8, 8));
    }

    static byte[] packet(int next, int hops, Address from, Address to, byte[] rest) {
        return new Writer().put(0x60000000L, 4).put(rest.length, 2).put(next, 1).put(hops, 1).put(from).put(to)
            .put(rest, 0, rest.length).done();
    }

    /** The CHECKSUM stands at sumAt of the rest and is 0 there. */
    static byte[] summed(int next, int hops, Address from, Address to, byte[] rest, int sumAt) {
        byte[] all = new Writer().put(from).put(to).put(rest.length, 4).put(next, 4).put(rest, 0, rest.length)
            .put(0, rest.length % 2).done();
        long sum = 0;
        for (int i = 0; i < all.length; i += 2) {
            sum += read(all, i, 2);
        }
        while (sum > 65535) {
            sum = sum % 65536 + sum / 65536;
        }
        sum = 65535 - sum;
        if (sum == 0) {
            sum = 65535;
        }
        rest[sumAt] = (byte) (sum / 256);
        rest[sumAt + 1] = (byte) sum;
        return packet(next, hops, from, to, rest);
    }

    static final class MLink {
        int number;
        long prefix;
        int mtu;
        boolean up = true;
    }

    static final class MEntry {
        Address address;
        long mac;
        int state;
        int until;
        int tries;
        final List<byte[]> waiting = new ArrayList<>();
    }

    static final class MFace {
        int number;
        MNode node;
        MLink link;
        long mac;
        long id;
        long eui;
        int state;
        int until;
        final List<MEntry> entries = new ArrayList<>();

        Address local() {
            return new Address(LOCAL, eui);
        }

        Address global() {
            return new Address(link.prefix, id);
        }

        MEntry entryFor(Address a) {
            for (MEntry e : entries) {
                if (e.address.equals(a)) {
                    return e;
                }
            }
            return null;
        }
    }

    static final class MRoute {
        long prefix;
        int length;
        int metric;
        MFace face;
        long low;
        int until;
        boolean changed;
    }

    static final class MPart {
        int offset;
        boolean more;
        byte[] body;
    }

    static final class MParts {
        Address from;
        long number;
        int until;
        byte[] first;
        final List<MPart> got = new ArrayList<>();
    }

    static final class MMtu {
        Address address;
        int mtu;
        int until;
    }

    static final class MRouter {
        Address address;
        int until;
    }

    static final class MNode {
        int number;
        boolean router;
        final List<MFace> faces = new ArrayList<>();
        final List<MRoute> routes = new ArrayList<>();
        final List<MParts> parts = new ArrayList<>();
        final List<MMtu> mtus = new ArrayList<>();
        final List<MRouter> routers = new ArrayList<>();
        int onLink;
        int cuts;
        final int[] counts = new int[6];

        boolean owns(Address a) {
            for (MFace f : faces) {
                if (a.equals(f.local()) || f.state == 2 && a.equals(f.global())) {
                    return true;
                }
            }
            return false;
        }
    }

    static final class MFrame {
        MLink link;
        MFace face;
        int sent;
        byte[] bytes;
    }

    static final class MTalk {
        final List<int[]> told = new ArrayList<>();
        final List<int[]> heard = new ArrayList<>();
        int answered;
        int due;
        int pause;
        boolean wasSent;
    }

    static final class Model {
        final List<MNode> nodes = new ArrayList<>();
        final List<MLink> links = new ArrayList<>();
        final List<MFace> faces = new ArrayList<>();
        final List<MFrame> flight = new ArrayList<>();
        final MTalk[][] talks = new MTalk[12][12];
        int now;
        int lost;
        int sent;
        int messages;
        int status;

        Model() {
            for (MTalk[] row : talks) {
                for (int i = 0; i < 12; i++) {
                    row[i] = new MTalk();
                }
            }
        }

        int no(int why) {
            status = why;
            return -1;
        }

        int yes(int value) {
            status = 0;
            return value;
        }

        int node(boolean router) {
            if (nodes.size() == 12) {
                return no(5);
            }
            MNode n = new MNode();
            n.number = nodes.size();
            n.router = router;
            nodes.add(n);
            return yes(n.number);
        }

        int link(long prefix, int mtu) {
            if (prefix >>> 61 != 1 || mtu < 1280 || mtu > 1500) {
                return no(4);
            }
            if (links.size() == 10) {
                return no(5);
            }
            for (MLink l : links) {
                if (l.prefix == prefix) {
                    return no(6);
                }
            }
            MLink l = new MLink();
            l.number = links.size();
            l.prefix = prefix;
            l.mtu = mtu;
            links.add(l);
            return yes(l.number);
        }

        MRoute routeOf(MNode n, long prefix, int length) {
            for (MRoute r : n.routes) {
                if (r.prefix == prefix && r.length == length) {
                    return r;
                }
            }
            return null;
        }

        MRoute newRoute(MNode n, long prefix, int length) {
            if (n.routes.size() == 56) {
                return null;
            }
            MRoute r = new MRoute();
            r.prefix = prefix;
            r.length = length;
            n.routes.add(r);
            n.routes.sort((a, b) -> a.prefix != b.prefix ? Long.compareUnsigned(a.prefix, b.prefix) : a.length - b.length);
            return r;
        }

        boolean told(MNode n, long prefix, int length) {
            MRoute r = routeOf(n, prefix, length);
            if (r == null) {
                r = newRoute(n, prefix, length);
            }
            if (r == null) {
                return false;
            }
            r.metric = 1;
            r.face = null;
            r.low = 0;
            r.until = 0;
            r.changed = true;
            return true;
        }

        boolean cutOff(MNode n, MLink l) {
            MRoute r = routeOf(n, l.prefix, 64);
            if (r == null || r.face != null || r.metric != 1) {
                return false;
            }
            r.metric = 16;
            r.until = now + 12;
            r.changed = true;
            return true;
        }

        int attach(int node, int link, long mac, long id) {
            if (node < 0 || node >= nodes.size() || link < 0 || link >= links.size()) {
                return no(1);
            }
            if (mac < 1 || mac >= 1L << 48 || (mac >> 40) % 2 == 1) {
                return no(4);
            }
            MNode n = nodes.get(node);
            MLink l = links.get(link);
            boolean full = n.router && n.routes.size() == 56 && routeOf(n, l.prefix, 64) == null;
            if (faces.size() == 24 || !n.router && n.faces.size() == 1 || full) {
                return no(5);
            }
            for (MFace f : faces) {
                if (f.mac == mac || f.node == n && f.link == l) {
                    return no(6);
                }
            }
            MFace f = new MFace();
            f.number = faces.size();
            f.node = n;
            f.link = l;
            f.mac = mac;
            f.eui = new Object() {
                long of() {
                    byte[] m = new Writer().put(mac, 6).done();
                    byte[] e = {(byte) (m[0] ^ 2), m[1], m[2], (byte) 0xFF, (byte) 0xFE, m[3], m[4], m[5]};
                    return read(e, 0, 8);
                }
            }.of();
            f.id = id == 0 ? f.eui : id;
            f.state = n.router ? 2 : 0;
            faces.add(f);
            n.faces.add(f);
            if (n.router) {
                told(n, l.prefix, 64);
                if (!l.up) {
                    cutOff(n, l);
                }
            }
            return yes(f.number);
        }

        int own(int node, long prefix, int length) {
            if (node < 0 || node >= nodes.size()) {
                return no(1);
            }
            MNode n = nodes.get(node);
            if (!n.router) {
                return no(3);
            }
            if (length < 8 || length > 64 || prefix >>> 61 != 1) {
                return no(4);
            }
            if (n.routes.size() == 56) {
                return no(5);
            }
            long p = prefix >>> 64 - length << 64 - length;
            if (routeOf(n, p, length) != null) {
                return no(6);
            }
            told(n, p, length);
            return yes(n.routes.size());
        }

        int hosts(int a, int b) {
            if (a < 0 || b < 0 || a >= nodes.size() || b >= nodes.size()) {
                return 1;
            }
            return nodes.get(a).router || nodes.get(b).router ? 3 : 0;
        }

        int message(int from, int to, int length, int seed) {
            int why = hosts(from, to);
            if (why == 0 && (from == to || length < 0 || length > 3000 || seed < 0 || seed > 255)) {
                why = 4;
            }
            if (why == 0 && messages == 64) {
                why = 5;
            }
            if (why != 0) {
                return no(why);
            }
            MTalk t = talks[from][to];
            messages++;
            t.told.add(new int[] {length, seed});
            if (t.told.size() == t.answered + 1) {
                t.due = now + 1;
                t.pause = 4;
                t.wasSent = false;
            }
            return yes(t.told.size() - 1);
        }

        // ---- sending

        void fly(MFace f, long mac, byte[] p) {
            if (!f.link.up) {
                return;
            }
            if (flight.size() == 96) {
                lost++;
                return;
            }
            MFrame x = new MFrame();
            x.link = f.link;
            x.face = f;
            x.sent = now;
            x.bytes = new Writer().put(mac, 6).put(f.mac, 6).put(0x86DD, 2).put(p, 0, p.length).done();
            flight.add(x);
            sent++;
        }

        int allWaiting() {
            int n = 0;
            for (MFace f : faces) {
                n += waitingAt(f);
            }
            return n;
        }

        int waitingAt(MFace f) {
            int n = 0;
            for (MEntry e : f.entries) {
                n += e.waiting.size();
            }
            return n;
        }

        void waitThere(MEntry e, byte[] p) {
            if (allWaiting() >= 48) {
                lost++;
                return;
            }
            e.waiting.add(p);
            if (e.waiting.size() > 3) {
                e.waiting.remove(0);
                lost++;
            }
        }

        void toNeighbour(MFace f, Address a, byte[] p) {
            MEntry e = f.entryFor(a);
            if (e == null) {
                if (f.entries.size() == 32) {
                    lost++;
                    return;
                }
                e = new MEntry();
                e.address = a;
                e.tries = 1;
                e.until = now + 1;
                f.entries.add(e);
                waitThere(e, p);
                ask(f, a, true, 0);
            } else if (e.state == 0) {
                waitThere(e, p);
            } else {
                fly(f, e.mac, p);
                if (e.state == 2) {
                    e.state = 3;
                    e.until = now + 5;
                }
            }
        }

        void ask(MFace f, Address a, boolean many, long mac) {
            Address from = a.high == LOCAL || f.node.router || f.state != 2 ? f.local() : f.global();
            byte[] rest = new Writer().put(135, 1).put(0, 3).put(0, 4).put(a).put(0x0101, 2).put(f.mac, 6).done();
            Address to = many ? a.group() : a;
            fly(f, many ? to.manyMac() : mac, summed(58, 255, from, to, rest, 2));
        }

        void tell(MFace f, Address a, Address asker) {
            boolean known = !asker.equals(Address.NONE);
            int bits = (f.node.router ? 128 : 0) | (known ? 64 : 0) | 32;
            byte[] rest = new Writer().put(136, 1).put(0, 3).put(bits, 1).put(0, 3).put(a).put(0x0201, 2).put(f.mac, 6)
                .done();
            Address to = known ? asker : new Address(MANY, 1);
            byte[] p = summed(58, 255, a, to, rest, 2);
            if (known) {
                toNeighbour(f, asker, p);
            } else {
                fly(f, to.manyMac(), p);
            }
        }

        Address sourceOf(MNode n) {
            return n.faces.isEmpty() || n.faces.get(0).state != 2 ? null : n.faces.get(0).global();
        }

        void control(MNode n, Address to, Writer rest) {
            nodeSends(n, 58, to, rest);
        }

        void nodeSends(MNode n, int next, Address to, Writer rest) {
            Address from = sourceOf(n);
            if (from == null) {
                lost++;
                return;
            }
            byte[] p = summed(next, 64, from, to, rest.done(), 2);
            if (n.owns(to)) {
                comes(n, p);
            } else if (to.high == LOCAL) {
                cutAndSend(n, n.faces.get(0), to, p);
            } else if (!n.router) {
                MFace f = n.faces.get(0);
                if (n.onLink > 0 && to.high == f.link.prefix) {
                    cutAndSend(n, f, to, p);
                } else if (!n.routers.isEmpty()) {
                    cutAndSend(n, f, n.routers.get(0).address, p);
                } else {
                    lost++;
                }
            } else {
                MRoute r = bestRoute(n, to.high);
                if (r == null) {
                    lost++;
                } else if (r.face != null) {
                    cutAndSend(n, r.face, new Address(LOCAL, r.low), p);
                } else if (linkFace(n, r) != null) {
                    cutAndSend(n, linkFace(n, r), to, p);
                } else {
                    comes(n, p);
                }
            }
        }

        MFace linkFace(MNode n, MRoute r) {
            for (MFace f : n.faces) {
                if (r.length == 64 && f.link.prefix == r.prefix) {
                    return f;
                }
            }
            return null;
        }

        MRoute bestRoute(MNode n, long high) {
            MRoute best = null;
            for (MRoute r : n.routes) {
                boolean fits = r.length == 0 || high >>> 64 - r.length == r.prefix >>> 64 - r.length;
                if (r.metric < 16 && fits && (best == null || best.length < r.length)) {
                    best = r;
                }
            }
            return best;
        }

        int mtuOf(MNode n, Address a) {
            for (MMtu m : n.mtus) {
                if (m.address.equals(a)) {
                    return m.mtu;
                }
            }
            return 0;
        }

        void cutAndSend(MNode n, MFace f, Address neighbour, byte[] p) {
            Address to = address(p, 24);
            int most = f.link.mtu;
            if (mtuOf(n, to) > 0) {
                most = Math.min(most, mtuOf(n, to));
            }
            if (p.length <= most) {
                toNeighbour(f, neighbour, p);
                return;
            }
            n.cuts++;
            int size = (most - 48) / 8 * 8;
            for (int at = 40; at < p.length; at += size) {
                int end = Math.min(p.length, at + size);
                byte[] rest = new Writer().put(p[6], 1).put(0, 1).put(at - 40 + (end < p.length ? 1 : 0), 2).put(n.cuts, 4)
                    .put(p, at, end).done();
                toNeighbour(f, neighbour, packet(44, 64, address(p, 8), to, rest));
            }
        }

        void trouble(MNode n, int type, int code, long value, byte[] about) {
            Address from = address(about, 8);
            int next = about[6] & 255;
            int kind = about[40] & 255;
            if (address(about, 24).many() || from.equals(Address.NONE)) {
                return;
            }
            if (next == 44 && (read(about, 42, 2) & ~7) != 0) {
                return;
            }
            if (next == 58 && (kind <= 3 || kind >= 134)) {
                return;
            }
            control(n, from, new Writer().put(type, 1).put(code, 1).put(0, 2).put(value, 4)
                .put(about, 0, Math.min(1232, about.length)));
        }

        // ---- coming

        void arrives(MFrame x) {
            long mac = read(x.bytes, 0, 6);
            for (MFace f : faces) {
                if (f.link == x.link && f != x.face && (mac >> 32 == 0x3333 || mac == f.mac)) {
                    at(f, Arrays.copyOfRange(x.bytes, 14, x.bytes.length));
                }
            }
        }

        void at(MFace f, byte[] p) {
            Address to = address(p, 24);
            MNode n = f.node;
            if (to.many()) {
                boolean takes = to.equals(new Address(MANY, 1)) || to.equals(new Address(MANY, 9)) && n.router
                    || to.equals(f.local().group())
                    || (f.state == 1 || f.state == 2) && to.equals(f.global().group());
                if (takes) {
                    onLink(f, p);
                }
                return;
            }
            if (n.owns(to)) {
                if (p[6] == 58 && (p[40] & 255) >= 134) {
                    onLink(f, p);
                } else {
                    comes(n, p);
                }
                return;
            }
            if (n.router && to.high != LOCAL) {
                forward(n, p);
            }
        }

        void forward(MNode n, byte[] p) {
            Address to = address(p, 24);
            MRoute r = bestRoute(n, to.high);
            if (r == null) {
                trouble(n, 1, 0, 0, p);
                return;
            }
            if (r.face == null && linkFace(n, r) == null) {
                comes(n, p);
                return;
            }
            MFace f = r.face != null ? r.face : linkFace(n, r);
            if ((p[7] & 255) <= 1) {
                trouble(n, 3, 0, 0, p);
            } else if (p.length > f.link.mtu) {
                trouble(n, 2, 0, f.link.mtu, p);
            } else {
                p[7]--;
                n.counts[5]++;
                toNeighbour(f, r.face != null ? new Address(LOCAL, r.low) : to, p);
            }
        }

        void onLink(MFace f, byte[] p) {
            MNode n = f.node;
            Address from = address(p, 8);
            if (p[6] == 17) {
                if (n.router) {
                    learn(f, p);
                }
                return;
            }
            int type = p[40] & 255;
            if (type == 134 && !n.router) {
                noted(f, from, read(p, 58, 6));
                MRouter known = null;
                for (MRouter r : n.routers) {
                    known = r.address.equals(from) ? r : known;
                }
                if (known == null && n.routers.size() < 4) {
                    known = new MRouter();
                    known.address = from;
                    n.routers.add(known);
                }
                if (known != null) {
                    known.until = now + 40;
                }
                n.onLink = now + 40;
                if (f.state == 0) {
                    f.state = 1;
                    f.until = now + 2;
                    Address group = f.global().group();
                    byte[] rest = new Writer().put(135, 1).put(0, 3).put(0, 4).put(f.global()).done();
                    fly(f, group.manyMac(), summed(58, 255, Address.NONE, group, rest, 2));
                }
            }
            if (type == 135) {
                Address a = address(p, 48);
                boolean mine = a.equals(f.local()) || a.equals(f.global()) && f.state == 2;
                if (mine && from.equals(Address.NONE)) {
                    tell(f, a, from);
                } else if (mine) {
                    noted(f, from, read(p, 66, 6));
                    tell(f, a, from);
                } else if (a.equals(f.global()) && f.state == 1 && from.equals(Address.NONE)) {
                    f.state = 3;
                }
            }
            if (type == 136) {
                told(f, address(p, 48), read(p, 66, 6), (p[44] & 64) != 0);
            }
        }

        void told(MFace f, Address a, long mac, boolean asked) {
            if (f.state == 1 && a.equals(f.global())) {
                f.state = 3;
                return;
            }
            MEntry e = f.entryFor(a);
            if (e == null) {
                return;
            }
            boolean other = e.mac != mac;
            boolean open = e.state == 0;
            e.mac = mac;
            if (asked) {
                e.state = 1;
                e.until = now + 30;
            } else if (open || other) {
                e.state = 2;
            }
            if (open) {
                release(f, e);
            }
        }

        void noted(MFace f, Address a, long mac) {
            MEntry e = f.entryFor(a);
            if (e == null) {
                if (f.entries.size() < 32) {
                    e = new MEntry();
                    e.address = a;
                    e.mac = mac;
                    e.state = 2;
                    f.entries.add(e);
                }
            } else if (e.state == 0 || e.mac != mac) {
                e.mac = mac;
                e.state = 2;
                release(f, e);
            }
        }

        void release(MFace f, MEntry e) {
            List<byte[]> all = new ArrayList<>(e.waiting);
            e.waiting.clear();
            for (byte[] p : all) {
                toNeighbour(f, e.address, p);
            }
        }

        void learn(MFace f, byte[] p) {
            MNode n = f.node;
            long low = read(p, 16, 8);
            for (int at = 52; at < p.length; at += 20) {
                long prefix = read(p, at, 8);
                int length = p[at + 18];
                int m = Math.min(16, p[at + 19] + 1);
                MRoute r = routeOf(n, prefix, length);
                if (r == null) {
                    if (m < 16) {
                        r = newRoute(n, prefix, length);
                    }
                    if (r != null) {
                        takeOver(r, f, low, m);
                    }
                } else if (r.face == null && r.metric == 1) {
                    continue;
                } else if (r.face == f && r.low == low) {
                    int was = r.metric;
                    r.metric = m;
                    if (was != m) {
                        r.changed = true;
                    }
                    if (m < 16) {
                        r.until = now + 18;
                    } else if (was < 16) {
                        r.until = now + 12;
                    }
                } else if (m < r.metric) {
                    takeOver(r, f, low, m);
                }
            }
        }

        void takeOver(MRoute r, MFace f, long low, int m) {
            r.face = f;
            r.low = low;
            r.metric = m;
            r.until = now + 18;
            r.changed = true;
        }

        void comes(MNode n, byte[] p) {
            Address from = address(p, 8);
            int next = p[6] & 255;
            if (next == 44) {
                part(n, p);
            } else if (next == 253) {
                messages(n, p);
            } else if (next == 58) {
                switch (p[40] & 255) {
                    case 128 -> control(n, from, new Writer().put(129, 1).put(0, 3).put(p, 44, p.length));
                    case 129 -> n.counts[1]++;
                    case 1 -> n.counts[2]++;
                    case 3 -> n.counts[3]++;
                    case 2 -> {
                        n.counts[4]++;
                        tooBig(n, address(p, 72), Math.max(1280, (int) read(p, 44, 4)));
                    }
                    default -> {
                    }
                }
            }
        }

        void tooBig(MNode n, Address a, int mtu) {
            MMtu known = null;
            for (MMtu m : n.mtus) {
                known = m.address.equals(a) ? m : known;
            }
            if (known == null && mtu < 1500) {
                known = new MMtu();
                if (n.mtus.size() < 12) {
                    n.mtus.add(known);
                } else {
                    int least = 0;
                    for (int i = 0; i < 12; i++) {
                        least = n.mtus.get(i).until < n.mtus.get(least).until ? i : least;
                    }
                    n.mtus.set(least, known);
                }
                known.address = a;
                known.mtu = mtu;
                known.until = now + 60;
            } else if (known != null && mtu < known.mtu) {
                known.mtu = mtu;
                known.until = now + 60;
            }
        }

        void part(MNode n, byte[] p) {
            Address from = address(p, 8);
            long number = read(p, 44, 4);
            MParts parts = null;
            for (MParts x : n.parts) {
                parts = x.from.equals(from) && x.number == number ? x : parts;
            }
            if (parts == null) {
                if (n.parts.size() == 4) {
                    lost++;
                    return;
                }
                parts = new MParts();
                parts.from = from;
                parts.number = number;
                parts.until = now + 10;
                n.parts.add(parts);
            }
            MPart one = new MPart();
            one.offset = (int) read(p, 42, 2) & ~7;
            one.more = (p[43] & 1) == 1;
            one.body = Arrays.copyOfRange(p, 48, p.length);
            parts.got.add(one);
            if (one.offset == 0) {
                parts.first = p;
            }
            byte[] whole = whole(parts);
            if (whole != null) {
                n.parts.remove(parts);
                comes(n, packet(p[40] & 255, p[7] & 255, from, address(p, 24), whole));
            }
        }

        byte[] whole(MParts parts) {
            int total = -1;
            byte[] all = new byte[4000];
            boolean[] has = new boolean[4000];
            for (MPart one : parts.got) {
                System.arraycopy(one.body, 0, all, one.offset, one.body.length);
                Arrays.fill(has, one.offset, one.offset + one.body.length, true);
                total = one.more ? total : one.offset + one.body.length;
            }
            for (int i = 0; i < total; i++) {
                if (!has[i]) {
                    return null;
                }
            }
            return total < 0 ? null : Arrays.copyOf(all, total);
        }

        void messages(MNode n, byte[] p) {
            int sender = (p[41] & 255) / 16;
            int receiver = p[41] & 15;
            long number = read(p, 44, 4);
            if (receiver != n.number) {
                return;
            }
            if (p[40] == 1) {
                MTalk t = talks[sender][receiver];
                if (number > t.heard.size()) {
                    return;
                }
                if (number == t.heard.size()) {
                    int d = 7;
                    for (int i = 48; i < p.length; i++) {
                        d = d * 31 + (p[i] & 255);
                    }
                    t.heard.add(new int[] {p.length - 48, d});
                }
                nodeSends(n, 253, address(p, 8),
                    new Writer().put(2, 1).put(16 * receiver + sender, 1).put(0, 2).put(number, 4));
            } else {
                MTalk t = talks[receiver][sender];
                if (t.answered < t.told.size() && number == t.answered && t.wasSent) {
                    t.answered++;
                    t.wasSent = false;
                    boolean more = t.answered < t.told.size();
                    t.due = more ? now + 1 : 0;
                    t.pause = more ? 4 : 0;
                }
            }
        }

        // ---- calls that move the world

        int echo(int node, long high, long low, int size) {
            if (node < 0 || node >= nodes.size()) {
                return no(1);
            }
            if (size < 0 || size > 3000 || high >>> 56 == 255) {
                return no(4);
            }
            MNode n = nodes.get(node);
            int before = n.counts[0]++;
            Writer rest = new Writer().put(128, 1).put(0, 3).put(node, 2).put(before, 2);
            for (int k = 0; k < size; k++) {
                rest.put(k % 256, 1);
            }
            control(n, new Address(high, low), rest);
            return yes(before);
        }

        int tick(int count) {
            if (count < 1 || count > 40) {
                return no(4);
            }
            for (int i = 0; i < count; i++) {
                now++;
                flight.removeIf(x -> x.sent < now - 8);
                for (MNode n : nodes) {
                    tickNode(n);
                }
            }
            return yes(now);
        }

        void tickNode(MNode n) {
            for (MFace f : n.faces) {
                for (MEntry e : new ArrayList<>(f.entries)) {
                    tickEntry(n, f, e);
                }
            }
            for (MParts p : new ArrayList<>(n.parts)) {
                if (p.until == now) {
                    n.parts.remove(p);
                    if (p.first != null) {
                        trouble(n, 3, 1, 0, p.first);
                    }
                }
            }
            n.mtus.removeIf(m -> m.until == now);
            if (n.router) {
                tickRouter(n);
                return;
            }
            for (MFace f : n.faces) {
                if (f.state == 1 && f.until == now) {
                    f.state = 2;
                }
            }
            n.routers.removeIf(r -> r.until == now);
            n.onLink = n.onLink == now ? 0 : n.onLink;
            for (int b = 0; b < nodes.size(); b++) {
                MTalk t = talks[n.number][b];
                if (t.answered < t.told.size() && t.due == now) {
                    t.due = now + t.pause;
                    t.pause = Math.min(32, t.pause * 2);
                    t.wasSent = true;
                    sendMessage(n, b, t);
                }
            }
        }

        void sendMessage(MNode n, int b, MTalk t) {
            MNode other = nodes.get(b);
            if (other.faces.isEmpty()) {
                lost++;
                return;
            }
            int[] m = t.told.get(t.answered);
            Writer rest = new Writer().put(1, 1).put(16 * n.number + b, 1).put(0, 2).put(t.answered, 4);
            for (int k = 0; k < m[0]; k++) {
                rest.put((m[1] + 31 * k) % 256, 1);
            }
            nodeSends(n, 253, other.faces.get(0).global(), rest);
        }

        void tickEntry(MNode n, MFace f, MEntry e) {
            if (e.state == 2 || e.until != now) {
                return;
            }
            if (e.state == 1) {
                e.state = 2;
            } else if (e.state == 3) {
                e.state = 4;
                e.tries = 1;
                e.until = now + 1;
                ask(f, e.address, false, e.mac);
            } else if (e.tries < 3) {
                e.tries++;
                e.until = now + 1;
                ask(f, e.address, e.state == 0, e.mac);
            } else {
                f.entries.remove(e);
                if (e.state == 4) {
                    n.routers.removeIf(r -> r.address.equals(e.address));
                }
                for (byte[] p : e.waiting) {
                    trouble(n, 1, 3, 0, p);
                }
            }
        }

        void tickRouter(MNode n) {
            if (now % 10 == n.number % 10) {
                for (MFace f : n.faces) {
                    byte[] rest = new Writer().put(134, 1).put(0, 3).put(64, 1).put(0, 1).put(40, 2).put(0, 8)
                        .put(1, 1).put(1, 1).put(f.mac, 6).put(0x05010000, 4).put(f.link.mtu, 4).put(0x030440C0, 4)
                        .put(40, 4).put(40, 4).put(0, 4).put(f.link.prefix, 8).put(0, 8).done();
                    Address all = new Address(MANY, 1);
                    fly(f, all.manyMac(), summed(58, 255, f.local(), all, rest, 2));
                }
            }
            for (MRoute r : new ArrayList<>(n.routes)) {
                if (r.face == null && r.metric == 1 || r.until != now) {
                    continue;
                }
                if (r.metric == 16) {
                    n.routes.remove(r);
                } else {
                    r.metric = 16;
                    r.until = now + 12;
                    r.changed = true;
                }
            }
            boolean all = now % 6 == n.number % 6;
            for (MFace f : n.faces) {
                Writer list = new Writer();
                for (MRoute r : n.routes) {
                    if (all || r.changed) {
                        list.put(r.prefix, 8).put(0, 10).put(r.length, 1)
                            .put(r.face != null && r.face.link == f.link ? 16 : r.metric, 1);
                    }
                }
                byte[] told = list.done();
                if (told.length > 0 && f.link.up) {
                    byte[] rest = new Writer().put(521, 2).put(521, 2).put(told.length + 12, 2).put(0, 2)
                        .put(0x02010000, 4).put(told, 0, told.length).done();
                    Address routers = new Address(MANY, 9);
                    fly(f, routers.manyMac(), summed(17, 255, f.local(), routers, rest, 6));
                }
            }
            for (MRoute r : n.routes) {
                r.changed = false;
            }
        }

        int deliver(int k) {
            if (k < 0 || k >= flight.size()) {
                return no(2);
            }
            arrives(flight.remove(k));
            return yes(flight.size());
        }

        int drop(int k) {
            if (k < 0 || k >= flight.size()) {
                return no(2);
            }
            flight.remove(k);
            return yes(flight.size());
        }

        int twice(int k) {
            if (k < 0 || k >= flight.size()) {
                return no(2);
            }
            if (flight.size() == 96) {
                return no(5);
            }
            flight.add(flight.get(k));
            return yes(flight.size());
        }

        int hurry(int count) {
            if (count < 1 || count > 200) {
                return no(4);
            }
            int n = 0;
            while (n < count && !flight.isEmpty()) {
                arrives(flight.remove(0));
                n++;
            }
            return yes(n);
        }

        int raise(int link, boolean up) {
            if (link < 0 || link >= links.size()) {
                return no(1);
            }
            MLink l = links.get(link);
            if (l.up == up) {
                return no(6);
            }
            l.up = up;
            if (!up) {
                flight.removeIf(x -> x.link == l);
            }
            int n = 0;
            for (MNode node : nodes) {
                for (MFace f : node.faces) {
                    if (node.router && f.link == l && (up ? told(node, l.prefix, 64) : cutOff(node, l))) {
                        n++;
                    }
                }
            }
            return yes(n);
        }
    }

    // ---- the comparison

    private static int wrong = 0;
    private static String trail = "";

    private static void same(String what, long got, long want) {
        if (got != want && wrong++ < 20) {
            System.out.println(trail + ": " + what + " answered " + got + ", due is " + want);
        }
    }

    private static void compareWorld(Net x, Model m) {
        same("status", x.status(), m.status);
        int[] world = {m.now, m.nodes.size(), m.links.size(), m.faces.size(), m.sent, m.lost, m.allWaiting()};
        for (int i = 0; i < world.length; i++) {
            same("world " + i, x.world(i), world[i]);
        }
        same("frames", x.frames(), m.flight.size());
    }

    private static void compareAll(Net x, Model m) {
        for (int k = 0; k < m.flight.size(); k++) {
            compareFrame(x, k, m.flight.get(k));
        }
        for (MFace f : m.faces) {
            compareFace(x, m, f);
        }
        for (MNode n : m.nodes) {
            compareNode(x, m, n);
        }
    }

    private static void compareFrame(Net x, int k, MFrame f) {
        int[] facts = {f.link.number, f.face.number, f.sent, f.bytes.length};
        for (int i = 0; i < 4; i++) {
            same("frame " + k + " " + i, x.frame(k, i), facts[i]);
        }
        byte[] longer = Arrays.copyOf(f.bytes, f.bytes.length + 8);
        for (int i = 0; i < f.bytes.length; i += i < 144 ? 8 : 40) {
            same("bytes " + k + " " + i, x.bytes(k, i), read(longer, i, 8));
        }
    }

    private static void compareFace(Net x, Model m, MFace f) {
        int[] facts = {f.node.number, f.link.number, f.state, f.entries.size(), m.waitingAt(f)};
        for (int i = 0; i < facts.length; i++) {
            same("face " + f.number + " " + i, x.face(f.number, i), facts[i]);
        }
        for (int j = 0; j < f.entries.size(); j++) {
            MEntry e = f.entries.get(j);
            long[] parts = {e.address.high, e.address.low, e.state == 0 ? 0 : e.mac, e.state, e.state == 2 ? 0 : e.until,
                e.state == 0 || e.state == 4 ? e.tries : 0};
            for (int i = 0; i < parts.length; i++) {
                same("entry " + f.number + " " + j + " " + i, x.entry(f.number, j, i), parts[i]);
            }
        }
    }

    private static void compareNode(Net x, Model m, MNode n) {
        int[] facts = {n.counts[0], n.counts[1], n.counts[2], n.counts[3], n.counts[4], n.counts[5], n.parts.size(),
            n.routers.size(), n.onLink > 0 ? 1 : 0};
        for (int i = 0; i < facts.length; i++) {
            same("count " + n.number + " " + i, x.count(n.number, i), facts[i]);
        }
        for (MFace f : m.faces) {
            Address a = f.global();
            same("mtu", x.mtu(n.number, a.high, a.low), m.mtuOf(n, a));
            if (n.router) {
                MRoute r = m.bestRoute(n, a.high);
                same("way " + n.number, x.way(n.number, a.high), r == null ? -1 : n.routes.indexOf(r));
            }
        }
        same("routes " + n.number, x.routes(n.number), n.router ? n.routes.size() : -1);
        for (int j = 0; j < n.routes.size(); j++) {
            MRoute r = n.routes.get(j);
            long[] parts = {r.prefix, r.length, r.metric, r.face == null ? -1 : r.face.number, r.low, r.until};
            for (int i = 0; i < parts.length; i++) {
                same("route " + n.number + " " + j + " " + i, x.route(n.number, j, i), parts[i]);
            }
        }
        for (MNode o : m.nodes) {
            if (!n.router && !o.router) {
                compareTalk(x, n.number, o.number, m.talks[n.number][o.number]);
            }
        }
    }

    private static void compareTalk(Net x, int a, int b, MTalk t) {
        int[] facts = {t.told.size(), t.answered, t.due, t.pause};
        for (int i = 0; i < 4; i++) {
            same("sent " + a + " " + b + " " + i, x.sent(a, b, i), facts[i]);
        }
        same("heard " + a + " " + b, x.heard(a, b), t.heard.size());
        for (int i = 0; i < t.heard.size(); i++) {
            same("got length", x.got(a, b, i, 0), t.heard.get(i)[0]);
            same("got digest", x.got(a, b, i, 1), t.heard.get(i)[1]);
        }
    }

    // ---- the runs

    private final Random random;
    private final Net x = new Net();
    private final Model m = new Model();
    private final boolean crowded;

    private ModelRuns(long seed) {
        random = new Random(seed);
        crowded = random.nextInt(5) == 0;
    }

    private int below(int n) {
        return random.nextInt(n);
    }

    private long prefix(int k) {
        return 0x2001000000000000L + ((long) k << 16);
    }

    private long mac() {
        return 0x020000000000L + below(1 << 20);
    }

    private void build() {
        int nodes = 2 + below(10);
        int links = 1 + below(crowded ? 2 : 6);
        int[] mtus = {1280, 1281, 1287, 1288, 1400, 1499, 1500, 1500};
        for (int i = 0; i < nodes; i++) {
            boolean router = i == 0 || below(3) == 0;
            same("node", x.node(router), m.node(router));
        }
        for (int i = 0; i < links; i++) {
            int mtu = mtus[below(mtus.length)];
            same("link", x.link(prefix(i), mtu), m.link(prefix(i), mtu));
        }
        for (int i = 0; i < nodes * 2; i++) {
            attach(i < nodes ? i : below(nodes));
        }
    }

    private void attach(int node) {
        int link = below(Math.max(1, m.links.size()));
        long mac = mac();
        long id = below(4) == 0 ? 0 : 1 + below(12);
        same("attach", x.attach(node, link, mac, id), m.attach(node, link, mac, id));
    }

    private void someEcho() {
        int node = below(m.nodes.size());
        int[] sizes = {0, 1, 40, 1232, 1233, 1400, 1452, 2464, 3000, below(3001)};
        int size = sizes[below(sizes.length)];
        long high = prefix(below(m.links.size() + 2));
        long low = below(14);
        if (!m.faces.isEmpty() && below(3) > 0) {
            MFace f = m.faces.get(below(m.faces.size()));
            Address a = below(4) == 0 ? f.local() : f.global();
            high = a.high;
            low = a.low;
        }
        same("echo", x.echo(node, high, low, size), m.echo(node, high, low, size));
    }

    /** Many ADDRESSES at once fill ENTRIES, MTUS and what waits. */
    private void manyEchoes() {
        int node = below(m.nodes.size());
        long high = prefix(below(m.links.size()));
        int size = below(2) == 0 ? below(20) : 1440;
        int first = below(40);
        for (int i = below(40); i >= 0; i--) {
            same("echo", x.echo(node, high, first + i, size), m.echo(node, high, first + i, size));
        }
    }

    private void someMessage() {
        int a = below(m.nodes.size());
        int b = below(m.nodes.size());
        int[] lengths = {0, 1, 10, 1224, 1232, 1233, 1452, 1453, 3000, below(3001)};
        int length = lengths[below(lengths.length)];
        int seed = below(256);
        same("message", x.message(a, b, length, seed), m.message(a, b, length, seed));
    }

    private void someOwn() {
        int node = below(m.nodes.size());
        int length = below(3) == 0 ? 64 : 8 + below(57);
        long high = below(2) == 0 ? prefix(below(12)) : 0x2000000000000000L | random.nextLong() >>> 3;
        same("own", x.own(node, high, length), m.own(node, high, length));
    }

    private void step() {
        int what = below(100);
        int frames = Math.max(1, m.flight.size());
        if (what < 22) {
            int n = below(6) == 0 ? 1 + below(12) : 1 + below(2);
            trail += " tick " + n;
            same("tick", x.tick(n), m.tick(n));
        } else if (what < 52) {
            int n = below(3) == 0 ? 1 + below(5) : 1 + below(150);
            trail += " hurry " + n;
            same("hurry", x.hurry(n), m.hurry(n));
        } else if (what < 60) {
            int k = below(frames);
            trail += " deliver " + k;
            same("deliver", x.deliver(k), m.deliver(k));
        } else if (what < 65) {
            int k = below(frames);
            trail += " drop " + k;
            same("drop", x.drop(k), m.drop(k));
        } else if (what < 69) {
            int k = below(frames);
            trail += " twice " + k;
            same("twice", x.twice(k), m.twice(k));
        } else if (what < 72) {
            int link = below(m.links.size());
            boolean up = below(3) > 0;
            trail += " raise";
            same("raise", x.raise(link, up), m.raise(link, up));
        } else if (what < 84) {
            trail += " message";
            someMessage();
        } else if (what < 96) {
            trail += " echo";
            if (crowded && below(2) == 0) {
                manyEchoes();
            } else {
                someEcho();
            }
        } else if (what < 98) {
            trail += " own";
            for (int i = crowded ? below(20) : 0; i >= 0; i--) {
                someOwn();
            }
        } else {
            trail += " attach";
            attach(below(m.nodes.size()));
        }
    }

    private long[] run(long seed) {
        trail = "seed " + seed;
        build();
        compareWorld(x, m);
        for (int i = 0; i < STEPS && x.told() < LONGEST_STORY && wrong == 0; i++) {
            step();
            compareWorld(x, m);
            if (below(STEPS_FOR_ALL) == 0) {
                compareAll(x, m);
            }
        }
        compareAll(x, m);
        long heard = 0;
        for (MTalk[] row : m.talks) {
            for (MTalk t : row) {
                heard += t.heard.size();
            }
        }
        long[] seen = new long[8];
        seen[0] = heard;
        for (MNode n : m.nodes) {
            for (int i = 1; i < 6; i++) {
                seen[i] += n.counts[i];
            }
        }
        seen[6] = m.lost;
        seen[7] = m.sent;
        return seen;
    }

    public static void main(String[] args) {
        int runs = args.length > 0 ? Integer.parseInt(args[0]) : RUNS;
        long[] seen = new long[8];
        for (int seed = 1; seed <= runs && wrong == 0; seed++) {
            long[] one = new ModelRuns(seed).run(seed);
            for (int i = 0; i < seen.length; i++) {
                seen[i] += one[i];
            }
        }
        System.out.println("heard, replies, unreachable, out of time, too big, forwarded, lost, sent: "
            + Arrays.toString(seen));
        for (int i = 0; i < seen.length; i++) {
            if (seen[i] == 0) {
                System.out.println("the runs never saw number " + i + " of these");
                wrong++;
            }
        }
        System.out.println(wrong == 0 ? "all answers are as due" : wrong + " answers are not as due");
        if (wrong != 0) {
            System.exit(1);
        }
    }
}
