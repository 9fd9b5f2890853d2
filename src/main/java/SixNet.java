/** Nodes on links that speak the sixth internet protocol; the document's parts 1 to 9 are named in the comments. */
public final class SixNet {
    public static final int BAD = -1;

    private static final int MOST_NODES = 12;
    private static final int MOST_LINKS = 10;
    private static final int MOST_FACES = 24;
    private static final int MOST_FRAMES = 96;
    private static final int MOST_WAITING = 48;
    private static final int MOST_WAITING_AT_ENTRY = 3;
    private static final int MOST_ENTRIES = 32;
    private static final int MOST_ROUTES = 56;
    private static final int MOST_ROUTERS = 4;
    private static final int MOST_PARTS = 4;
    private static final int MOST_MTUS = 12;
    private static final int MOST_MESSAGES = 64;

    private static final int NO_PLACE = 1;
    private static final int NO_THING = 2;
    private static final int OTHER_KIND = 3;
    private static final int WRONG_NUMBER = 4;
    private static final int TOO_MANY = 5;
    private static final int THERE_ALREADY = 6;

    private static final int ABSENT = 0;
    private static final int TRYING = 1;
    private static final int ASSIGNED = 2;
    private static final int DOUBLE = 3;

    private static final int OPEN = 0;
    private static final int GOOD = 1;
    private static final int OLD = 2;
    private static final int WAITING = 3;
    private static final int ASKED = 4;

    private static final int NEXT_DATAGRAM = 17;
    private static final int NEXT_FRAGMENT = 44;
    private static final int NEXT_CONTROL = 58;
    private static final int NEXT_MESSAGES = 253;

    private static final int UNREACHABLE = 1;
    private static final int TOO_BIG = 2;
    private static final int OUT_OF_TIME = 3;
    private static final int ECHO = 128;
    private static final int REPLY = 129;
    private static final int ADVERT = 134;
    private static final int ASK = 135;
    private static final int TELL = 136;
    private static final int MESSAGE = 1;
    private static final int ANSWER = 2;

    private static final int ECHOES = 0;
    private static final int REPLIES = 1;
    private static final int UNREACHABLES = 2;
    private static final int OUTS_OF_TIME = 3;
    private static final int TOO_BIGS = 4;
    private static final int FORWARDED = 5;
    private static final int TALLIES = 6;

    private static final long LOCAL_HIGH = 0xFE80000000000000L;
    private static final long MANY_HIGH = 0xFF02000000000000L;
    private static final long ALL_NODES = 1L;
    private static final long ALL_ROUTERS = 9L;
    private static final long GROUP = 0x1FF000000L;
    private static final long MANY_MAC = 0x333300000000L;
    private static final long GREATEST_MAC = 0xFFFFFFFFFFFFL;

    private static final int FRAME_HEADER = 14;
    private static final int HEADER = 40;
    private static final int FRAGMENT_BODY = 48;
    private static final int CONTROL_SUM = 42;
    private static final int DATAGRAM_SUM = 46;
    private static final int ROUTES_AT = 52;
    private static final int ROUTE_BYTES = 20;
    private static final int LEAST_MTU = 1280;
    private static final int GREATEST_MTU = 1500;
    private static final int FRAME_ROOM = FRAME_HEADER + GREATEST_MTU;
    private static final int LONGEST_BODY = 3000;
    private static final int WHOLE_ROOM = HEADER + 8 + LONGEST_BODY;
    private static final int QUOTED = 1232;
    private static final int HOPS = 64;
    private static final int LINK_HOPS = 255;

    private static final int FRAME_LIFE = 8;
    private static final int ADVERT_LIFE = 40;
    private static final int TRYING_TIME = 2;
    private static final int GOOD_TIME = 30;
    private static final int WAITING_TIME = 5;
    private static final int MOST_TRIES = 3;
    private static final int ROUTE_LIFE = 18;
    private static final int ROUTE_DEATH = 12;
    private static final int NO_WAY = 16;
    private static final int PARTS_LIFE = 10;
    private static final int MTU_LIFE = 60;
    private static final int FIRST_WAIT = 4;
    private static final int LONGEST_WAIT = 32;

    private static final int NOWHERE = 0;
    private static final int HERE = 1;
    private static final int AWAY = 2;
    private static final int STAYS = -1;
    /** An ECHO to its own NODE makes a REPLY to it, and that makes nothing more: two rounds, and some to spare. */
    private static final int MOST_ROUNDS = 4;

    private final Node[] nodes = new Node[MOST_NODES];
    private final Link[] links = new Link[MOST_LINKS];
    private final Face[] faces = new Face[MOST_FACES];
    private final Talk[] talks = new Talk[MOST_NODES * MOST_NODES];
    private final Row flight = new Row(MOST_FRAMES);
    private final Row waits = new Row(MOST_WAITING);
    private final Packet[] failed = new Packet[MOST_WAITING_AT_ENTRY];
    private final Packet draft = new Packet(FRAME_ROOM);
    private final Hop hop = new Hop();
    private int nodeCount;
    private int linkCount;
    private int faceCount;
    private int messageCount;
    private Packet arriving = new Packet(FRAME_ROOM);
    private Packet came = new Packet(WHOLE_ROOM);
    private Packet going = new Packet(WHOLE_ROOM);
    private int now;
    private int framesSent;
    private int lost;
    private int status;

    /** No NODES, no LINKS; NOW 0. */
    public SixNet() {
    }

    public int node(boolean router) {
        if (nodeCount >= MOST_NODES) {
            return refuse(TOO_MANY);
        }
        nodes[nodeCount] = new Node(nodeCount, router);
        nodeCount++;
        return answer(nodeCount - 1);
    }

    public int link(long prefix, int mtu) {
        if (!isGlobal(prefix) || mtu < LEAST_MTU || mtu > GREATEST_MTU) {
            return refuse(WRONG_NUMBER);
        }
        if (linkCount >= MOST_LINKS) {
            return refuse(TOO_MANY);
        }
        for (int i = 0; i < linkCount; i++) {
            Link there = links[i];
            if (there != null && there.prefix == prefix) {
                return refuse(THERE_ALREADY);
            }
        }
        links[linkCount] = new Link(linkCount, prefix, mtu);
        linkCount++;
        return answer(linkCount - 1);
    }

    public int attach(int node, int link, long mac, long id) {
        Node n = nodeAt(node);
        Link line = linkAt(link);
        if (n == null || line == null) {
            return refuse(NO_PLACE);
        }
        if (mac < 1 || mac > GREATEST_MAC || (mac >>> 40 & 1) != 0) {
            return refuse(WRONG_NUMBER);
        }
        if (faceCount >= MOST_FACES || !n.hasRoomFor(line)) {
            return refuse(TOO_MANY);
        }
        if (n.faceOn(line.prefix) != null || isMacTaken(mac)) {
            return refuse(THERE_ALREADY);
        }
        Face f = new Face(faceCount, n, line, mac, id);
        faces[faceCount] = f;
        faceCount++;
        n.addFace(f);
        if (n.router) {
            n.tellRoute(line.prefix, 64);
            if (!line.up) {
                n.cutRoute(line.prefix, now);
            }
        }
        return answer(f.number);
    }

    public int own(int node, long prefix, int length) {
        Node n = nodeAt(node);
        if (n == null) {
            return refuse(NO_PLACE);
        }
        if (!n.router) {
            return refuse(OTHER_KIND);
        }
        if (length < 8 || length > 64 || !isGlobal(prefix)) {
            return refuse(WRONG_NUMBER);
        }
        if (n.routeCount >= MOST_ROUTES) {
            return refuse(TOO_MANY);
        }
        long kept = prefix & mask(length);
        if (n.findRoute(kept, length) != null) {
            return refuse(THERE_ALREADY);
        }
        n.tellRoute(kept, length);
        return answer(n.routeCount);
    }

    public int message(int from, int to, int length, int seed) {
        int why = whyNotHosts(from, to);
        if (why != 0) {
            return refuse(why);
        }
        if (from == to || length < 0 || length > LONGEST_BODY || seed < 0 || seed > 255) {
            return refuse(WRONG_NUMBER);
        }
        if (messageCount >= MOST_MESSAGES) {
            return refuse(TOO_MANY);
        }
        Talk t = talkOf(from, to);
        if (t == null) {
            t = new Talk(from, to);
            talks[from * MOST_NODES + to] = t;
        }
        messageCount++;
        t.tell(length, seed, now);
        return answer(t.count - 1);
    }

    public int echo(int node, long high, long low, int size) {
        Node n = nodeAt(node);
        if (n == null) {
            return refuse(NO_PLACE);
        }
        if (size < 0 || size > LONGEST_BODY || isMany(high)) {
            return refuse(WRONG_NUMBER);
        }
        int before = n.tallies[ECHOES];
        n.tallies[ECHOES]++;
        if (writeEcho(n, before, high, low, size)) {
            sendFrom(n);
        }
        return answer(before);
    }

    public int tick(int n) {
        if (n < 1 || n > 40) {
            return refuse(WRONG_NUMBER);
        }
        for (int i = 0; i < n; i++) {
            now++;
            dropOldFrames();
            for (int k = 0; k < nodeCount; k++) {
                Node node = nodes[k];
                if (node != null) {
                    tickEntries(node);
                    tickParts(node);
                    node.mtus.age(now);
                    if (node.router) {
                        tickRouter(node);
                    } else {
                        tickHost(node);
                    }
                }
            }
        }
        return answer(now);
    }

    public int deliver(int k) {
        if (flight.at(k) == null) {
            return refuse(NO_THING);
        }
        arrive(k);
        return answer(flight.count);
    }

    public int drop(int k) {
        if (flight.at(k) == null) {
            return refuse(NO_THING);
        }
        flight.remove(k);
        return answer(flight.count);
    }

    public int twice(int k) {
        Packet f = flight.at(k);
        if (f == null) {
            return refuse(NO_THING);
        }
        Packet copy = flight.grow();
        if (copy == null) {
            return refuse(TOO_MANY);
        }
        copy.become(f);
        copy.mark(f.link, f.face, f.sent);
        return answer(flight.count);
    }

    public int hurry(int n) {
        if (n < 1 || n > 200) {
            return refuse(WRONG_NUMBER);
        }
        int arrived = 0;
        while (arrived < n && flight.count > 0) {
            arrive(0);
            arrived++;
        }
        return answer(arrived);
    }

    public int raise(int link, boolean up) {
        Link line = linkAt(link);
        if (line == null) {
            return refuse(NO_PLACE);
        }
        if (line.up == up) {
            return refuse(THERE_ALREADY);
        }
        line.up = up;
        if (!up) {
            dropFramesOn(link);
        }
        int changed = 0;
        for (int i = 0; i < faceCount; i++) {
            Face f = faces[i];
            if (f != null && f.link == line && f.node.router) {
                boolean told = up ? f.node.tellRoute(line.prefix, 64) : f.node.cutRoute(line.prefix, now);
                changed += told ? 1 : 0;
            }
        }
        return answer(changed);
    }

    public int frames() {
        return flight.count;
    }

    public int frame(int k, int what) {
        Packet f = flight.at(k);
        if (f == null) {
            return refuse(NO_THING);
        }
        switch (what) {
            case 0:
                return answer(f.link);
            case 1:
                return answer(f.face);
            case 2:
                return answer(f.sent);
            case 3:
                return answer(f.length);
            default:
                return refuse(WRONG_NUMBER);
        }
    }

    public long bytes(int k, int i) {
        Packet f = flight.at(k);
        if (f == null || i < 0 || i >= f.length) {
            return refuse(NO_THING);
        }
        status = 0;
        return f.get(i, 8);
    }

    public int face(int i, int what) {
        Face f = faceAt(i);
        if (f == null) {
            return refuse(NO_PLACE);
        }
        switch (what) {
            case 0:
                return answer(f.node.number);
            case 1:
                return answer(f.link.number);
            case 2:
                return answer(f.state);
            case 3:
                return answer(f.entryCount);
            case 4:
                return answer(waits.countAt(i));
            default:
                return refuse(WRONG_NUMBER);
        }
    }

    public long id(int i, int what) {
        Face f = faceAt(i);
        if (f == null) {
            return refuse(NO_PLACE);
        }
        if (what < 0 || what > 2) {
            return refuse(WRONG_NUMBER);
        }
        status = 0;
        return what == 0 ? f.localLow : what == 1 ? f.id : f.mac;
    }

    public long entry(int i, int j, int what) {
        Face f = faceAt(i);
        if (f == null) {
            return refuse(NO_PLACE);
        }
        Entry e = f.entryAt(j);
        if (e == null) {
            return refuse(NO_THING);
        }
        if (what < 0 || what > 5) {
            return refuse(WRONG_NUMBER);
        }
        status = 0;
        return e.tellOf(what);
    }

    public int routes(int node) {
        Node n = nodeAt(node);
        if (n == null) {
            return refuse(NO_PLACE);
        }
        if (!n.router) {
            return refuse(OTHER_KIND);
        }
        return answer(n.routeCount);
    }

    public long route(int node, int j, int what) {
        Node n = nodeAt(node);
        if (n == null) {
            return refuse(NO_PLACE);
        }
        if (!n.router) {
            return refuse(OTHER_KIND);
        }
        Route r = n.routeAt(j);
        if (r == null) {
            return refuse(NO_THING);
        }
        if (what < 0 || what > 5) {
            return refuse(WRONG_NUMBER);
        }
        status = 0;
        return r.tellOf(what);
    }

    public int way(int node, long high) {
        Node n = nodeAt(node);
        if (n == null) {
            return refuse(NO_PLACE);
        }
        if (!n.router) {
            return refuse(OTHER_KIND);
        }
        return answer(n.bestRoute(high));
    }

    public int heard(int a, int b) {
        int why = whyNotHosts(a, b);
        if (why != 0) {
            return refuse(why);
        }
        Talk t = talkOf(a, b);
        return answer(t == null ? 0 : t.heard);
    }

    public int got(int a, int b, int i, int what) {
        int why = whyNotHosts(a, b);
        if (why != 0) {
            return refuse(why);
        }
        Talk t = talkOf(a, b);
        if (t == null || i < 0 || i >= t.heard || i >= MOST_MESSAGES) {
            return refuse(NO_THING);
        }
        if (what < 0 || what > 1) {
            return refuse(WRONG_NUMBER);
        }
        return answer(what == 0 ? t.heardLengths[i] : t.digests[i]);
    }

    public int sent(int a, int b, int what) {
        int why = whyNotHosts(a, b);
        if (why != 0) {
            return refuse(why);
        }
        if (what < 0 || what > 3) {
            return refuse(WRONG_NUMBER);
        }
        Talk t = talkOf(a, b);
        if (t == null) {
            return answer(0);
        }
        switch (what) {
            case 0:
                return answer(t.count);
            case 1:
                return answer(t.answered);
            case 2:
                return answer(t.due);
            default:
                return answer(t.pause);
        }
    }

    public int mtu(int node, long high, long low) {
        Node n = nodeAt(node);
        if (n == null) {
            return refuse(NO_PLACE);
        }
        return answer(n.mtus.known(high, low));
    }

    public int count(int node, int what) {
        Node n = nodeAt(node);
        if (n == null) {
            return refuse(NO_PLACE);
        }
        if (what >= 0 && what < TALLIES) {
            return answer(n.tallies[what]);
        }
        switch (what) {
            case 6:
                return answer(n.partsCount);
            case 7:
                return answer(n.routerCount);
            case 8:
                return answer(n.onLinkUntil > 0 ? 1 : 0);
            default:
                return refuse(WRONG_NUMBER);
        }
    }

    public int world(int what) {
        switch (what) {
            case 0:
                return answer(now);
            case 1:
                return answer(nodeCount);
            case 2:
                return answer(linkCount);
            case 3:
                return answer(faceCount);
            case 4:
                return answer(framesSent);
            case 5:
                return answer(lost);
            case 6:
                return answer(waits.count);
            default:
                return refuse(WRONG_NUMBER);
        }
    }

    public int status() {
        return status;
    }

    // ---- refusals and places

    private int refuse(int why) {
        status = why;
        return BAD;
    }

    private int answer(int value) {
        status = 0;
        return value;
    }

    private Node nodeAt(int k) {
        return k >= 0 && k < nodeCount && k < MOST_NODES ? nodes[k] : null;
    }

    private Link linkAt(int k) {
        return k >= 0 && k < linkCount && k < MOST_LINKS ? links[k] : null;
    }

    private Face faceAt(int k) {
        return k >= 0 && k < faceCount && k < MOST_FACES ? faces[k] : null;
    }

    private Talk talkOf(int from, int to) {
        boolean known = from >= 0 && from < MOST_NODES && to >= 0 && to < MOST_NODES;
        return known ? talks[from * MOST_NODES + to] : null;
    }

    private int whyNotHosts(int a, int b) {
        Node first = nodeAt(a);
        Node second = nodeAt(b);
        if (first == null || second == null) {
            return NO_PLACE;
        }
        return first.router || second.router ? OTHER_KIND : 0;
    }

    private boolean isMacTaken(long mac) {
        for (int i = 0; i < faceCount; i++) {
            Face f = faces[i];
            if (f != null && f.mac == mac) {
                return true;
            }
        }
        return false;
    }

    private static boolean isGlobal(long prefix) {
        return prefix >>> 61 == 1;
    }

    private static boolean isMany(long high) {
        return high >>> 56 == 0xFF;
    }

    /** The bits of a PREFIX that count; a shift by 64 would be one by 0. */
    private static long mask(int length) {
        return length <= 0 ? 0 : length >= 64 ? -1L : -1L << (64 - length);
    }

    private static long groupOf(long low) {
        return GROUP | low & 0xFFFFFFL;
    }

    private static long manyMacOf(long low) {
        return MANY_MAC | low & 0xFFFFFFFFL;
    }

    // ---- part 1: frames in flight

    private void launch(Face f, long mac, Packet p) {
        if (!f.link.up) {
            return;
        }
        Packet frame = flight.grow();
        if (frame == null) {
            lost++;
            return;
        }
        frame.length = 0;
        frame.add(mac, 6);
        frame.add(f.mac, 6);
        frame.add(0x86DD, 2);
        frame.append(p, 0, p.length);
        frame.mark(f.link.number, f.number, now);
        framesSent++;
    }

    private void dropOldFrames() {
        for (int k = flight.count - 1; k >= 0; k--) {
            Packet f = flight.at(k);
            if (f != null && now - f.sent > FRAME_LIFE) {
                flight.remove(k);
            }
        }
    }

    private void dropFramesOn(int link) {
        for (int k = flight.count - 1; k >= 0; k--) {
            Packet f = flight.at(k);
            if (f != null && f.link == link) {
                flight.remove(k);
            }
        }
    }

    private void arrive(int k) {
        // The frame that came before gives its bytes back to the row, as nobody looks at them now.
        arriving = flight.take(k, arriving);
        long mac = arriving.get(0, 6);
        boolean many = mac >>> 32 == MANY_MAC >>> 32;
        for (int i = 0; i < faceCount; i++) {
            Face f = faces[i];
            if (f != null && f.link.number == arriving.link && i != arriving.face && (many || f.mac == mac)) {
                came.length = 0;
                came.append(arriving, FRAME_HEADER, arriving.length - FRAME_HEADER);
                if (came.isLinkTalk()) {
                    hearLink(f);
                } else if (takeIn(f.node)) {
                    sendFrom(f.node);
                }
            }
        }
    }

    // ---- part 2: what comes

    /** ADVERT, ASK, TELL and DATAGRAMS: they concern the INTERFACE where they come. */
    private void hearLink(Face f) {
        boolean taken = isMany(came.toHigh())
            ? f.takes(came.toHigh(), came.toLow())
            : f.node.owns(came.toHigh(), came.toLow());
        if (!taken) {
            return;
        }
        if (came.next() == NEXT_DATAGRAM) {
            if (f.node.router) {
                learnRoutes(f);
            }
            return;
        }
        switch (came.type()) {
            case ADVERT:
                if (!f.node.router) {
                    hearAdvert(f);
                }
                break;
            case ASK:
                hearAsk(f);
                break;
            case TELL:
                hearTell(f);
                break;
            default:
                break;
        }
    }

    /** A PACKET that is no talk of the LINK comes; true: what it makes this NODE send stands in GOING. */
    private boolean takeIn(Node n) {
        long high = came.toHigh();
        if (n.owns(high, came.toLow())) {
            return comesTo(n);
        }
        if (!n.router || high == LOCAL_HIGH || isMany(high)) {
            return false;
        }
        int where = followRoute(n, high, came.toLow());
        return where == HERE ? comesTo(n) : forwardTo(n, where);
    }

    private boolean comesTo(Node n) {
        if (came.next() == NEXT_FRAGMENT && !joinPart(n)) {
            return false;
        }
        if (came.next() == NEXT_MESSAGES) {
            return hearMessages(n);
        }
        if (came.next() != NEXT_CONTROL) {
            return false;
        }
        switch (came.type()) {
            case ECHO:
                return writeReply(n);
            case REPLY:
                n.tallies[REPLIES]++;
                return false;
            case UNREACHABLE:
                n.tallies[UNREACHABLES]++;
                return false;
            case OUT_OF_TIME:
                n.tallies[OUTS_OF_TIME]++;
                return false;
            case TOO_BIG:
                n.tallies[TOO_BIGS]++;
                hearTooBig(n);
                return false;
            default:
                return false;
        }
    }

    private boolean forwardTo(Node n, int where) {
        Face f = hop.face;
        if (where != AWAY || f == null) {
            return writeTrouble(n, UNREACHABLE, 0, 0);
        }
        if (came.hops() <= 1) {
            return writeTrouble(n, OUT_OF_TIME, 0, 0);
        }
        if (came.length > f.link.mtu) {
            return writeTrouble(n, TOO_BIG, 0, f.link.mtu);
        }
        came.setHops(came.hops() - 1);
        n.tallies[FORWARDED]++;
        if (handOver(came)) {
            ask(f, hop.high, hop.low, 0, false);
        }
        return false;
    }

    // ---- part 3: neighbours

    /** A PACKET for the neighbour that HOP names; true: an ASK for it must go TO MANY. */
    private boolean handOver(Packet p) {
        Face f = hop.face;
        if (f == null) {
            return false;
        }
        Entry e = f.findEntry(hop.high, hop.low);
        boolean made = e == null;
        if (made) {
            e = f.makeEntry(hop.high, hop.low);
            if (e == null) {
                lost++;
                return false;
            }
            e.become(OPEN, 0, now + 1, 1);
        }
        if (e.state == OPEN) {
            waitAt(f, e, p);
        } else {
            launch(f, e.mac, p);
            e.use(now);
        }
        return made;
    }

    private void waitAt(Face f, Entry e, Packet p) {
        if (waits.count >= MOST_WAITING) {
            lost++;
            return;
        }
        if (waits.countOf(e) >= MOST_WAITING_AT_ENTRY) {
            waits.remove(waits.firstOf(e));
            lost++;
        }
        Packet kept = waits.grow();
        if (kept != null) {
            kept.become(p);
            kept.mark(f.link.number, f.number, now);
            kept.owner = e;
        }
    }

    private void sendWaiting(Face f, Entry e) {
        if (e == null || e.state == OPEN) {
            return;
        }
        int at = 0;
        for (int left = waits.count; left > 0; left--) {
            Packet p = waits.at(at);
            if (p == null || p.owner != e) {
                at++;
            } else {
                launch(f, e.mac, p);
                e.use(now);
                waits.remove(at);
            }
        }
    }

    /** ASK for an ADDRESS: to its GROUP if MAC is 0; TRYING asks from ADDRESS 0. */
    private void ask(Face f, long high, long low, long mac, boolean trying) {
        boolean global = high != LOCAL_HIGH && !f.node.router && f.state == ASSIGNED;
        long fromHigh = trying ? 0 : global ? f.link.prefix : LOCAL_HIGH;
        long fromLow = trying ? 0 : global ? f.id : f.localLow;
        boolean many = mac == 0;
        long toLow = many ? groupOf(low) : low;
        draft.begin(NEXT_CONTROL, LINK_HOPS, fromHigh, fromLow, many ? MANY_HIGH : high, toLow);
        draft.add((long) ASK << 24, 4);
        draft.add(0, 4);
        draft.add(high, 8);
        draft.add(low, 8);
        if (!trying) {
            draft.add(0x0101, 2);
            draft.add(f.mac, 6);
        }
        draft.close(CONTROL_SUM);
        launch(f, many ? manyMacOf(toLow) : mac, draft);
    }

    private void writeTell(Face f, int flags, long high, long low, long toHigh, long toLow) {
        draft.begin(NEXT_CONTROL, LINK_HOPS, high, low, toHigh, toLow);
        draft.add((long) TELL << 24, 4);
        draft.add((f.node.router ? 128 : 0) + flags, 1);
        draft.add(0, 3);
        draft.add(high, 8);
        draft.add(low, 8);
        draft.add(0x0201, 2);
        draft.add(f.mac, 6);
        draft.close(CONTROL_SUM);
    }

    private void hearAsk(Face f) {
        long high = came.get(48, 8);
        long low = came.get(56, 8);
        long askerHigh = came.fromHigh();
        long askerLow = came.fromLow();
        boolean fromNobody = askerHigh == 0 && askerLow == 0;
        if (fromNobody && f.isTrying(high, low)) {
            f.state = DOUBLE;
            return;
        }
        if (!f.has(high, low)) {
            return;
        }
        if (fromNobody) {
            writeTell(f, 32, high, low, MANY_HIGH, ALL_NODES);
            launch(f, manyMacOf(ALL_NODES), draft);
            return;
        }
        sendWaiting(f, note(f, askerHigh, askerLow, came.get(66, 6)));
        writeTell(f, 96, high, low, askerHigh, askerLow);
        hop.set(f, askerHigh, askerLow);
        // Who asked was NOTED, or there is no room for an ENTRY: either way no ASK is needed.
        handOver(draft);
    }

    private void hearTell(Face f) {
        long high = came.get(48, 8);
        long low = came.get(56, 8);
        long mac = came.get(66, 6);
        boolean asked = (came.get(44, 1) & 64) != 0;
        if (f.isTrying(high, low)) {
            f.state = DOUBLE;
            return;
        }
        Entry e = f.findEntry(high, low);
        if (e == null) {
            return;
        }
        if (asked) {
            e.become(GOOD, mac, now + GOOD_TIME, 0);
        } else if (e.state == OPEN || e.mac != mac) {
            e.become(OLD, mac, 0, 0);
        }
        sendWaiting(f, e);
    }

    /** An ADDRESS is NOTED with a MAC: its ENTRY, or null if there is no room for one. */
    private Entry note(Face f, long high, long low, long mac) {
        Entry e = f.findEntry(high, low);
        if (e == null) {
            e = f.makeEntry(high, low);
            if (e != null) {
                e.become(OLD, mac, 0, 0);
            }
        } else if (e.state == OPEN || e.mac != mac) {
            e.become(OLD, mac, 0, 0);
        }
        return e;
    }

    private void tickEntries(Node n) {
        for (int i = 0; i < n.faceCount; i++) {
            Face f = n.faceNumber(i);
            int at = 0;
            for (int left = f == null ? 0 : f.entryCount; left > 0; left--) {
                int gone = ageEntry(f, at);
                if (gone == STAYS) {
                    at++;
                }
                for (int k = 0; k < gone && k < MOST_WAITING_AT_ENTRY; k++) {
                    came.become(failed[k]);
                    if (writeTrouble(n, UNREACHABLE, 3, 0)) {
                        sendFrom(n);
                    }
                }
            }
        }
    }

    /** STAYS, or how many PACKETS of an ENTRY that is gone now stand in FAILED. */
    private int ageEntry(Face f, int at) {
        Entry e = f.entryAt(at);
        if (e == null || e.state == OLD || now < e.until) {
            return STAYS;
        }
        if (e.state == GOOD) {
            e.become(OLD, e.mac, 0, 0);
            return STAYS;
        }
        int tries = e.state == WAITING ? 0 : e.tries;
        if (tries < MOST_TRIES) {
            e.become(e.state == OPEN ? OPEN : ASKED, e.mac, now + 1, tries + 1);
            ask(f, e.high, e.low, e.mac, false);
            return STAYS;
        }
        f.removeEntry(at);
        if (e.state == ASKED && e.high == LOCAL_HIGH) {
            f.node.forgetRouter(e.low);
        }
        return gatherFailed(e);
    }

    /** They leave the row before any of them is answered, for an answer may have to wait there. */
    private int gatherFailed(Entry e) {
        int gathered = 0;
        for (int left = MOST_WAITING_AT_ENTRY; left > 0; left--) {
            int at = waits.firstOf(e);
            if (at >= 0) {
                failed[gathered] = waits.take(at, failed[gathered]);
                gathered++;
            }
        }
        return gathered;
    }

    // ---- part 4: hosts and routers

    private void hearAdvert(Face f) {
        Node n = f.node;
        sendWaiting(f, note(f, came.fromHigh(), came.fromLow(), came.get(58, 6)));
        n.noteRouter(came.fromLow(), now + ADVERT_LIFE);
        n.onLinkUntil = now + ADVERT_LIFE;
        if (f.state == ABSENT) {
            f.state = TRYING;
            f.until = now + TRYING_TIME;
            ask(f, f.link.prefix, f.id, 0, true);
        }
    }

    private void advertise(Face f) {
        draft.begin(NEXT_CONTROL, LINK_HOPS, LOCAL_HIGH, f.localLow, MANY_HIGH, ALL_NODES);
        draft.add((long) ADVERT << 24, 4);
        draft.add(64, 1);
        draft.add(0, 1);
        draft.add(ADVERT_LIFE, 2);
        draft.add(0, 8);
        draft.add(0x0101, 2);
        draft.add(f.mac, 6);
        draft.add(0x05010000L, 4);
        draft.add(f.link.mtu, 4);
        draft.add(0x030440C0L, 4);
        draft.add(ADVERT_LIFE, 4);
        draft.add(ADVERT_LIFE, 4);
        draft.add(0, 4);
        draft.add(f.link.prefix, 8);
        draft.add(0, 8);
        draft.close(CONTROL_SUM);
        launch(f, manyMacOf(ALL_NODES), draft);
    }

    /** Sends GOING from this NODE; what comes to the NODE itself by that is taken here, too. */
    private void sendFrom(Node n) {
        boolean again = true;
        for (int round = 0; again && round < MOST_ROUNDS; round++) {
            again = false;
            int where = findWay(n, going.toHigh(), going.toLow());
            if (where == HERE) {
                Packet turned = came;
                came = going;
                going = turned;
                again = comesTo(n);
            } else if (where == AWAY) {
                sendInParts(n);
            } else {
                lost++;
            }
        }
    }

    private int findWay(Node n, long high, long low) {
        Face first = n.faceNumber(0);
        if (first == null) {
            return NOWHERE;
        }
        if (n.owns(high, low)) {
            return HERE;
        }
        boolean straight = high == LOCAL_HIGH || !n.router && n.onLinkUntil > 0 && high == first.link.prefix;
        if (straight) {
            hop.set(first, high, low);
            return AWAY;
        }
        if (n.router) {
            return followRoute(n, high, low);
        }
        if (n.routerCount < 1) {
            return NOWHERE;
        }
        hop.set(first, LOCAL_HIGH, n.routerLows[0]);
        return AWAY;
    }

    private int followRoute(Node n, long high, long low) {
        Route r = n.routeAt(n.bestRoute(high));
        if (r == null) {
            return NOWHERE;
        }
        Face teller = faceAt(r.face);
        if (teller != null) {
            hop.set(teller, LOCAL_HIGH, r.low);
            return AWAY;
        }
        Face own = r.length == 64 ? n.faceOn(r.prefix) : null;
        if (own == null) {
            return HERE;
        }
        hop.set(own, high, low);
        return AWAY;
    }

    /** Begins GOING from the NODE's own ADDRESS; without one it is LOST. */
    private boolean beginFrom(Node n, int next, long toHigh, long toLow) {
        Face f = n.faceNumber(0);
        if (f == null || f.state != ASSIGNED) {
            lost++;
            return false;
        }
        going.begin(next, HOPS, f.link.prefix, f.id, toHigh, toLow);
        return true;
    }

    private boolean writeEcho(Node n, int before, long high, long low, int size) {
        if (!beginFrom(n, NEXT_CONTROL, high, low)) {
            return false;
        }
        going.add((long) ECHO << 24, 4);
        going.add(n.number, 2);
        going.add(before, 2);
        for (int k = 0; k < size; k++) {
            going.add(k, 1);
        }
        going.close(CONTROL_SUM);
        return true;
    }

    private boolean writeReply(Node n) {
        if (!beginFrom(n, NEXT_CONTROL, came.fromHigh(), came.fromLow())) {
            return false;
        }
        going.add((long) REPLY << 24, 4);
        going.append(came, HEADER + 4, came.length - HEADER - 4);
        going.close(CONTROL_SUM);
        return true;
    }

    /** UNREACHABLE, OUT OF TIME or TOO BIG about the PACKET in CAME, if it may be told of. */
    private boolean writeTrouble(Node n, int type, int code, int value) {
        if (!came.mayBeToldOf() || !beginFrom(n, NEXT_CONTROL, came.fromHigh(), came.fromLow())) {
            return false;
        }
        going.add(type, 1);
        going.add(code, 1);
        going.add(0, 2);
        going.add(value, 4);
        going.append(came, 0, QUOTED);
        going.close(CONTROL_SUM);
        return true;
    }

    // ---- part 5: routes

    private void learnRoutes(Face f) {
        long teller = came.fromLow();
        for (int at = ROUTES_AT; at + ROUTE_BYTES <= came.length; at += ROUTE_BYTES) {
            int length = (int) came.get(at + 18, 1);
            int metric = (int) came.get(at + 19, 1);
            learnRoute(f, teller, came.get(at, 8), length, Math.min(metric + 1, NO_WAY));
        }
    }

    private void learnRoute(Face f, long teller, long prefix, int length, int metric) {
        Route r = f.node.findRoute(prefix, length);
        if (r == null) {
            r = metric < NO_WAY ? f.node.makeRoute(prefix, length) : null;
            if (r != null) {
                r.become(metric, f.number, teller, now + ROUTE_LIFE);
            }
        } else if (r.face == f.number && r.low == teller) {
            boolean another = r.metric != metric;
            if (metric < NO_WAY) {
                r.until = now + ROUTE_LIFE;
            } else if (another) {
                r.until = now + ROUTE_DEATH;
            }
            r.metric = metric;
            r.changed = r.changed || another;
        } else if (!r.isFirm() && metric < r.metric) {
            r.become(metric, f.number, teller, now + ROUTE_LIFE);
        }
    }

    private void tellRoutes(Face f, boolean all) {
        Node n = f.node;
        int told = all ? n.routeCount : n.changedCount();
        if (told < 1 || !f.link.up) {
            return;
        }
        draft.begin(NEXT_DATAGRAM, LINK_HOPS, LOCAL_HIGH, f.localLow, MANY_HIGH, ALL_ROUTERS);
        draft.add(521, 2);
        draft.add(521, 2);
        draft.add(12 + ROUTE_BYTES * told, 2);
        draft.add(0, 2);
        draft.add(0x02010000L, 4);
        for (int j = 0; j < n.routeCount; j++) {
            Route r = n.routeAt(j);
            if (r != null && (all || r.changed)) {
                draft.add(r.prefix, 8);
                draft.add(0, 8);
                draft.add(0, 2);
                draft.add(r.length, 1);
                draft.add(r.face == f.number ? NO_WAY : r.metric, 1);
            }
        }
        draft.close(DATAGRAM_SUM);
        launch(f, manyMacOf(ALL_ROUTERS), draft);
    }

    private void tickRouter(Node n) {
        if (now % 10 == n.number % 10) {
            for (int i = 0; i < n.faceCount; i++) {
                Face f = n.faceNumber(i);
                if (f != null) {
                    advertise(f);
                }
            }
        }
        n.ageRoutes(now);
        boolean all = now % 6 == n.number % 6;
        for (int i = 0; i < n.faceCount; i++) {
            Face f = n.faceNumber(i);
            if (f != null) {
                tellRoutes(f, all);
            }
        }
        n.settleRoutes();
    }

    // ---- part 6: the way

    private void hearTooBig(Node n) {
        int told = Math.max((int) came.get(44, 4), LEAST_MTU);
        n.mtus.learn(came.get(72, 8), came.get(80, 8), told, now + MTU_LIFE);
    }

    /** GOING goes to HOP, CUT if it is longer than the MTU. */
    private void sendInParts(Node n) {
        Face f = hop.face;
        if (f == null) {
            return;
        }
        int known = n.mtus.known(going.toHigh(), going.toLow());
        int most = known > 0 ? Math.min(known, f.link.mtu) : f.link.mtu;
        if (going.length <= most) {
            if (handOver(going)) {
                ask(f, hop.high, hop.low, 0, false);
            }
            return;
        }
        n.cuts++;
        int size = Math.max(most - FRAGMENT_BODY, 8) / 8 * 8;
        for (int at = HEADER; at < going.length; at += size) {
            writePart(at, size, n.cuts);
            if (handOver(draft)) {
                ask(f, hop.high, hop.low, 0, false);
            }
        }
    }

    private void writePart(int at, int size, int number) {
        boolean more = at + size < going.length;
        draft.begin(NEXT_FRAGMENT, HOPS, going.fromHigh(), going.fromLow(), going.toHigh(), going.toLow());
        draft.add(going.next(), 1);
        draft.add(0, 1);
        draft.add(at - HEADER + (more ? 1 : 0), 2);
        draft.add(number, 4);
        draft.append(going, at, size);
        draft.setRest();
    }

    /** The FRAGMENT in CAME is put to its like; true: CAME is the whole PACKET now. */
    private boolean joinPart(Node n) {
        int at = n.findParts(came);
        if (at < 0) {
            at = n.makeParts(came, now + PARTS_LIFE);
        }
        Parts p = n.partsAt(at);
        if (p == null) {
            lost++;
            return false;
        }
        p.put(came);
        if (!p.isWhole()) {
            return false;
        }
        p.finish(came);
        came.become(p.whole);
        n.removeParts(at);
        return true;
    }

    private void tickParts(Node n) {
        int at = 0;
        for (int left = n.partsCount; left > 0; left--) {
            Parts p = n.partsAt(at);
            if (p == null || now < p.until) {
                at++;
            } else {
                n.removeParts(at);
                came.become(p.first);
                if (came.length > 0 && writeTrouble(n, OUT_OF_TIME, 1, 0)) {
                    sendFrom(n);
                }
            }
        }
    }

    // ---- part 7: messages

    private void tickHost(Node n) {
        Face f = n.faceNumber(0);
        if (f != null && f.state == TRYING && now >= f.until) {
            f.state = ASSIGNED;
        }
        n.ageRouters(now);
        for (int other = 0; other < nodeCount; other++) {
            Talk t = talkOf(n.number, other);
            if (t != null && t.due > 0 && now >= t.due) {
                boolean written = writeMessage(n, t);
                t.wasSent(now);
                if (written) {
                    sendFrom(n);
                }
            }
        }
    }

    private boolean writeMessage(Node n, Talk t) {
        Node other = nodeAt(t.to);
        Face there = other == null ? null : other.faceNumber(0);
        int number = t.answered;
        if (there == null || number < 0 || number >= MOST_MESSAGES) {
            lost++;
            return false;
        }
        if (!beginFrom(n, NEXT_MESSAGES, there.link.prefix, there.id)) {
            return false;
        }
        going.add(MESSAGE, 1);
        going.add(16 * t.from + t.to, 1);
        going.add(0, 2);
        going.add(number, 4);
        for (int k = 0; k < t.lengths[number]; k++) {
            going.add(t.seeds[number] + 31 * k, 1);
        }
        going.close(CONTROL_SUM);
        return true;
    }

    /** True: an ANSWER stands in GOING. */
    private boolean hearMessages(Node n) {
        int kind = (int) came.get(40, 1);
        int from = (int) came.get(41, 1) >> 4;
        int to = (int) came.get(41, 1) & 15;
        int number = (int) came.get(44, 4);
        Talk t = kind == MESSAGE ? talkOf(from, to) : talkOf(to, from);
        if (to != n.number || t == null) {
            return false;
        }
        if (kind == ANSWER) {
            t.wasAnswered(number, now);
            return false;
        }
        if (number == t.heard) {
            t.hear(came);
        } else if (number > t.heard) {
            return false;
        }
        if (!beginFrom(n, NEXT_MESSAGES, came.fromHigh(), came.fromLow())) {
            return false;
        }
        going.add(ANSWER, 1);
        going.add(16 * to + from, 1);
        going.add(0, 2);
        going.add(number, 4);
        going.close(CONTROL_SUM);
        return true;
    }

    // ---- the classes

    private static final class Link {
        final int number;
        final long prefix;
        final int mtu;
        boolean up = true;

        Link(int number, long prefix, int mtu) {
            this.number = number;
            this.prefix = prefix;
            this.mtu = mtu;
        }
    }

    /** The neighbour to which a PACKET goes, and where. */
    private static final class Hop {
        Face face;
        long high;
        long low;

        void set(Face face, long high, long low) {
            this.face = face;
            this.high = high;
            this.low = low;
        }
    }

    /** The bytes of a PACKET or a FRAME, and what is known of it while it flies or waits. */
    private static final class Packet {
        final byte[] data;
        int length;
        int link;
        int face;
        int sent;
        Entry owner;

        Packet(int room) {
            data = new byte[room > 0 ? room : 0];
        }

        void mark(int link, int face, int sent) {
            this.link = link;
            this.face = face;
            this.sent = sent;
        }

        /** Bytes behind the end count as 0. */
        long get(int at, int size) {
            long value = 0;
            for (int i = at; i < at + size; i++) {
                boolean within = i >= 0 && i < length && i < data.length;
                value = value << 8 | (within ? data[i] & 0xFF : 0);
            }
            return value;
        }

        void add(long value, int size) {
            for (int shift = 8 * size - 8; shift >= 0 && length < data.length; shift -= 8) {
                data[length] = (byte) (value >>> shift);
                length++;
            }
        }

        void append(Packet from, int at, int size) {
            int fits = Math.min(size, Math.min(from.length - at, data.length - length));
            if (at >= 0 && fits > 0) {
                System.arraycopy(from.data, at, data, length, fits);
                length += fits;
            }
        }

        void become(Packet from) {
            length = 0;
            if (from != null) {
                length = from.length < data.length ? from.length : data.length;
                System.arraycopy(from.data, 0, data, 0, length);
            }
        }

        void begin(int next, int hops, long fromHigh, long fromLow, long toHigh, long toLow) {
            length = 0;
            add(0x60000000L, 4);
            add(0, 2);
            add(next, 1);
            add(hops, 1);
            add(fromHigh, 8);
            add(fromLow, 8);
            add(toHigh, 8);
            add(toLow, 8);
        }

        void setRest() {
            if (length >= HEADER) {
                data[4] = (byte) (length - HEADER >> 8);
                data[5] = (byte) (length - HEADER);
            }
        }

        /** Writes how long it is and the CHECKSUM; the ADDRESSES and all behind them are one row from byte 8 on. */
        void close(int sumAt) {
            setRest();
            long sum = length - HEADER + next();
            for (int i = 8; i < length && i < data.length; i++) {
                sum += (i & 1) == 0 ? (data[i] & 0xFF) << 8 : data[i] & 0xFF;
            }
            for (int i = 0; i < 4; i++) {
                sum = (sum & 0xFFFF) + (sum >>> 16);
            }
            int turned = (int) ~sum & 0xFFFF;
            int written = turned == 0 ? 0xFFFF : turned;
            if (sumAt >= 0 && sumAt + 1 < data.length) {
                data[sumAt] = (byte) (written >> 8);
                data[sumAt + 1] = (byte) written;
            }
        }

        int next() {
            return (int) get(6, 1);
        }

        int hops() {
            return (int) get(7, 1);
        }

        void setHops(int hops) {
            if (data.length > 7) {
                data[7] = (byte) hops;
            }
        }

        long fromHigh() {
            return get(8, 8);
        }

        long fromLow() {
            return get(16, 8);
        }

        long toHigh() {
            return get(24, 8);
        }

        long toLow() {
            return get(32, 8);
        }

        int type() {
            return (int) get(HEADER, 1);
        }

        int offsetAndMore() {
            return (int) get(42, 2);
        }

        boolean isLinkTalk() {
            return next() == NEXT_DATAGRAM || next() == NEXT_CONTROL && type() >= ADVERT;
        }

        boolean mayBeToldOf() {
            if (isMany(toHigh()) || fromHigh() == 0 && fromLow() == 0) {
                return false;
            }
            if (next() == NEXT_FRAGMENT) {
                return offsetAndMore() >> 3 == 0;
            }
            return next() != NEXT_CONTROL || type() == ECHO || type() == REPLY;
        }
    }

    /** PACKETS in order; what leaves the row lies behind its end, to be written again. */
    private static final class Row {
        final Packet[] items;
        int count;

        Row(int room) {
            items = new Packet[room > 0 ? room : 0];
        }

        Packet at(int k) {
            return k >= 0 && k < count && k < items.length ? items[k] : null;
        }

        /** One more at the end, to be written by who asked; null if the row is full. */
        Packet grow() {
            if (count < 0 || count >= items.length) {
                return null;
            }
            if (items[count] == null) {
                items[count] = new Packet(FRAME_ROOM);
            }
            count++;
            return items[count - 1];
        }

        /** Takes one out of the row for good; SPARE is there in its place for later. */
        Packet take(int k, Packet spare) {
            if (k < 0 || k >= count || count > items.length || items[k] == null) {
                return spare;
            }
            Packet taken = items[k];
            for (int i = k + 1; i < count; i++) {
                items[i - 1] = items[i];
            }
            count--;
            items[count] = spare;
            return taken;
        }

        void remove(int k) {
            take(k, at(k));
        }

        int firstOf(Entry e) {
            for (int k = 0; k < count; k++) {
                Packet p = at(k);
                if (p != null && p.owner == e) {
                    return k;
                }
            }
            return -1;
        }

        int countOf(Entry e) {
            int found = 0;
            for (int k = 0; k < count; k++) {
                Packet p = at(k);
                found += p != null && p.owner == e ? 1 : 0;
            }
            return found;
        }

        int countAt(int face) {
            int found = 0;
            for (int k = 0; k < count; k++) {
                Packet p = at(k);
                found += p != null && p.face == face ? 1 : 0;
            }
            return found;
        }
    }

    private static final class Entry {
        long high;
        long low;
        long mac;
        int state;
        int until;
        int tries;

        void become(int state, long mac, int until, int tries) {
            this.state = state;
            this.mac = mac;
            this.until = until;
            this.tries = tries;
        }

        /** A PACKET was sent by it. */
        void use(int now) {
            if (state == OLD) {
                become(WAITING, mac, now + WAITING_TIME, 0);
            }
        }

        long tellOf(int what) {
            switch (what) {
                case 0:
                    return high;
                case 1:
                    return low;
                case 2:
                    return mac;
                case 3:
                    return state;
                case 4:
                    return until;
                default:
                    return tries;
            }
        }
    }

    /** An INTERFACE. */
    private static final class Face {
        final int number;
        final Node node;
        final Link link;
        final long mac;
        final long id;
        final long localLow;
        final Entry[] entries = new Entry[MOST_ENTRIES];
        int entryCount;
        int state;
        int until;

        Face(int number, Node node, Link link, long mac, long id) {
            this.number = number;
            this.node = node;
            this.link = link;
            this.mac = mac;
            this.localLow = (mac >>> 24 << 40 | 0xFFFE000000L | mac & 0xFFFFFFL) ^ 0x0200000000000000L;
            this.id = id == 0 ? localLow : id;
            this.state = node.router ? ASSIGNED : ABSENT;
        }

        boolean has(long high, long low) {
            return high == LOCAL_HIGH && low == localLow || state == ASSIGNED && high == link.prefix && low == id;
        }

        boolean isTrying(long high, long low) {
            return state == TRYING && high == link.prefix && low == id;
        }

        boolean takes(long high, long low) {
            if (high != MANY_HIGH) {
                return false;
            }
            boolean global = state == TRYING || state == ASSIGNED;
            return low == ALL_NODES
                || low == ALL_ROUTERS && node.router
                || low == groupOf(localLow)
                || global && low == groupOf(id);
        }

        Entry entryAt(int j) {
            return j >= 0 && j < entryCount && j < entries.length ? entries[j] : null;
        }

        Entry findEntry(long high, long low) {
            for (int j = 0; j < entryCount; j++) {
                Entry e = entryAt(j);
                if (e != null && e.high == high && e.low == low) {
                    return e;
                }
            }
            return null;
        }

        Entry makeEntry(long high, long low) {
            if (entryCount < 0 || entryCount >= entries.length) {
                return null;
            }
            Entry e = entries[entryCount];
            if (e == null) {
                e = new Entry();
                entries[entryCount] = e;
            }
            entryCount++;
            e.high = high;
            e.low = low;
            return e;
        }

        void removeEntry(int j) {
            Entry gone = entryAt(j);
            if (gone == null) {
                return;
            }
            for (int i = j + 1; i < entryCount && i < entries.length; i++) {
                entries[i - 1] = entries[i];
            }
            entryCount--;
            entries[entryCount] = gone;
        }
    }

    private static final class Route {
        long prefix;
        int length;
        int metric;
        int face;
        long low;
        int until;
        boolean changed;

        void become(int metric, int face, long low, int until) {
            this.metric = metric;
            this.face = face;
            this.low = low;
            this.until = until;
            this.changed = true;
        }

        boolean isFirm() {
            return face < 0 && metric == 1;
        }

        boolean comesBehind(long otherPrefix, int otherLength) {
            int order = Long.compareUnsigned(prefix, otherPrefix);
            return order > 0 || order == 0 && length > otherLength;
        }

        long tellOf(int what) {
            switch (what) {
                case 0:
                    return prefix;
                case 1:
                    return length;
                case 2:
                    return metric;
                case 3:
                    return face;
                case 4:
                    return low;
                default:
                    return until;
            }
        }
    }

    private static final class Node {
        final int number;
        final boolean router;
        final Face[] faces;
        final Route[] routes;
        final Parts[] parts = new Parts[MOST_PARTS];
        final Mtus mtus = new Mtus();
        final int[] tallies = new int[TALLIES];
        final long[] routerLows = new long[MOST_ROUTERS];
        final int[] routerUntils = new int[MOST_ROUTERS];
        int faceCount;
        int routeCount;
        int partsCount;
        int routerCount;
        int onLinkUntil;
        int cuts;

        Node(int number, boolean router) {
            this.number = number;
            this.router = router;
            this.faces = new Face[router ? MOST_LINKS : 1];
            this.routes = new Route[router ? MOST_ROUTES : 0];
        }

        Face faceNumber(int i) {
            return i >= 0 && i < faceCount && i < faces.length ? faces[i] : null;
        }

        void addFace(Face f) {
            if (faceCount >= 0 && faceCount < faces.length) {
                faces[faceCount] = f;
                faceCount++;
            }
        }

        Face faceOn(long prefix) {
            for (int i = 0; i < faceCount; i++) {
                Face f = faceNumber(i);
                if (f != null && f.link.prefix == prefix) {
                    return f;
                }
            }
            return null;
        }

        boolean hasRoomFor(Link line) {
            if (!router) {
                return faceCount == 0;
            }
            return routeCount < MOST_ROUTES || findRoute(line.prefix, 64) != null;
        }

        boolean owns(long high, long low) {
            for (int i = 0; i < faceCount; i++) {
                Face f = faceNumber(i);
                if (f != null && f.has(high, low)) {
                    return true;
                }
            }
            return false;
        }

        Route routeAt(int j) {
            return j >= 0 && j < routeCount && j < routes.length ? routes[j] : null;
        }

        Route findRoute(long prefix, int length) {
            for (int j = 0; j < routeCount; j++) {
                Route r = routeAt(j);
                if (r != null && r.prefix == prefix && r.length == length) {
                    return r;
                }
            }
            return null;
        }

        /** A new ROUTE at its place in the order; null if there are too many. */
        Route makeRoute(long prefix, int length) {
            if (routeCount < 0 || routeCount >= routes.length) {
                return null;
            }
            Route made = routes[routeCount];
            if (made == null) {
                made = new Route();
            }
            int at = routeCount;
            while (at > 0 && routes[at - 1] != null && routes[at - 1].comesBehind(prefix, length)) {
                routes[at] = routes[at - 1];
                at--;
            }
            routes[at] = made;
            routeCount++;
            made.prefix = prefix;
            made.length = length;
            return made;
        }

        void removeRoute(int j) {
            Route gone = routeAt(j);
            if (gone == null) {
                return;
            }
            for (int i = j + 1; i < routeCount && i < routes.length; i++) {
                routes[i - 1] = routes[i];
            }
            routeCount--;
            routes[routeCount] = gone;
        }

        /** From nobody with METRIC 1 from now on; false if there is no room. */
        boolean tellRoute(long prefix, int length) {
            Route r = findRoute(prefix, length);
            if (r == null) {
                r = makeRoute(prefix, length);
            }
            if (r == null) {
                return false;
            }
            r.become(1, -1, 0, 0);
            return true;
        }

        boolean cutRoute(long prefix, int now) {
            Route r = findRoute(prefix, 64);
            if (r == null || !r.isFirm()) {
                return false;
            }
            r.become(NO_WAY, -1, 0, now + ROUTE_DEATH);
            return true;
        }

        int bestRoute(long high) {
            int best = -1;
            int longest = -1;
            for (int j = 0; j < routeCount; j++) {
                Route r = routeAt(j);
                if (r != null && r.metric < NO_WAY && r.length > longest && (high & mask(r.length)) == r.prefix) {
                    best = j;
                    longest = r.length;
                }
            }
            return best;
        }

        int changedCount() {
            int changed = 0;
            for (int j = 0; j < routeCount; j++) {
                Route r = routeAt(j);
                changed += r != null && r.changed ? 1 : 0;
            }
            return changed;
        }

        void settleRoutes() {
            for (int j = 0; j < routeCount; j++) {
                Route r = routeAt(j);
                if (r != null) {
                    r.changed = false;
                }
            }
        }

        void ageRoutes(int now) {
            int at = 0;
            for (int left = routeCount; left > 0; left--) {
                Route r = routeAt(at);
                if (r == null || r.isFirm() || now < r.until) {
                    at++;
                } else if (r.metric < NO_WAY) {
                    r.become(NO_WAY, r.face, r.low, now + ROUTE_DEATH);
                    at++;
                } else {
                    removeRoute(at);
                }
            }
        }

        void noteRouter(long low, int until) {
            for (int i = 0; i < routerCount && i < MOST_ROUTERS; i++) {
                if (routerLows[i] == low) {
                    routerUntils[i] = until;
                    return;
                }
            }
            if (routerCount >= 0 && routerCount < MOST_ROUTERS) {
                routerLows[routerCount] = low;
                routerUntils[routerCount] = until;
                routerCount++;
            }
        }

        void forgetRouter(long low) {
            int kept = 0;
            for (int i = 0; i < routerCount && i < MOST_ROUTERS; i++) {
                if (routerLows[i] != low) {
                    routerLows[kept] = routerLows[i];
                    routerUntils[kept] = routerUntils[i];
                    kept++;
                }
            }
            routerCount = kept;
        }

        void ageRouters(int now) {
            int kept = 0;
            for (int i = 0; i < routerCount && i < MOST_ROUTERS; i++) {
                if (now < routerUntils[i]) {
                    routerLows[kept] = routerLows[i];
                    routerUntils[kept] = routerUntils[i];
                    kept++;
                }
            }
            routerCount = kept;
            if (now >= onLinkUntil) {
                onLinkUntil = 0;
            }
        }

        Parts partsAt(int k) {
            return k >= 0 && k < partsCount && k < MOST_PARTS ? parts[k] : null;
        }

        int findParts(Packet p) {
            int number = (int) p.get(44, 4);
            for (int k = 0; k < partsCount; k++) {
                Parts there = partsAt(k);
                if (there != null && there.isOf(p.fromHigh(), p.fromLow(), number)) {
                    return k;
                }
            }
            return -1;
        }

        int makeParts(Packet p, int until) {
            if (partsCount < 0 || partsCount >= MOST_PARTS) {
                return -1;
            }
            if (parts[partsCount] == null) {
                parts[partsCount] = new Parts();
            }
            parts[partsCount].start(p, until);
            partsCount++;
            return partsCount - 1;
        }

        void removeParts(int k) {
            Parts gone = partsAt(k);
            if (gone == null) {
                return;
            }
            for (int i = k + 1; i < partsCount && i < MOST_PARTS; i++) {
                parts[i - 1] = parts[i];
            }
            partsCount--;
            parts[partsCount] = gone;
        }
    }

    /** FRAGMENTS that are put together. */
    private static final class Parts {
        final Packet whole = new Packet(WHOLE_ROOM);
        final Packet first = new Packet(QUOTED);
        final boolean[] there = new boolean[WHOLE_ROOM / 8];
        long fromHigh;
        long fromLow;
        int number;
        int until;
        int total;

        void start(Packet p, int until) {
            this.fromHigh = p.get(8, 8);
            this.fromLow = p.get(16, 8);
            this.number = (int) p.get(44, 4);
            this.until = until;
            this.total = -1;
            first.length = 0;
            for (int i = 0; i < there.length; i++) {
                there[i] = false;
            }
        }

        boolean isOf(long high, long low, int otherNumber) {
            return fromHigh == high && fromLow == low && number == otherNumber;
        }

        void put(Packet p) {
            int offset = p.offsetAndMore() >> 3 << 3;
            int size = p.length - FRAGMENT_BODY;
            if (size < 0 || HEADER + offset + size > whole.data.length) {
                return;
            }
            whole.length = HEADER + offset;
            whole.append(p, FRAGMENT_BODY, size);
            for (int i = offset / 8; i < (offset + size + 7) / 8 && i < there.length; i++) {
                there[i] = true;
            }
            if ((p.offsetAndMore() & 1) == 0) {
                total = offset + size;
            }
            if (offset == 0) {
                first.become(p);
            }
        }

        boolean isWhole() {
            for (int i = 0; i < (total + 7) / 8 && i < there.length; i++) {
                if (!there[i]) {
                    return false;
                }
            }
            return total >= 0;
        }

        /** The first 40 bytes, as they are in any of the FRAGMENTS but for NEXT and the length. */
        void finish(Packet p) {
            whole.begin((int) p.get(HEADER, 1), p.hops(), fromHigh, fromLow, p.toHigh(), p.toLow());
            whole.length = HEADER + total;
            whole.setRest();
        }
    }

    /** The MTUS that a NODE knows for ADDRESSES. */
    private static final class Mtus {
        final long[] highs = new long[MOST_MTUS];
        final long[] lows = new long[MOST_MTUS];
        final int[] values = new int[MOST_MTUS];
        final int[] untils = new int[MOST_MTUS];
        int count;

        int find(long high, long low) {
            for (int i = 0; i < count && i < MOST_MTUS; i++) {
                if (highs[i] == high && lows[i] == low) {
                    return i;
                }
            }
            return -1;
        }

        int known(long high, long low) {
            int at = find(high, low);
            return at < 0 ? 0 : values[at];
        }

        void learn(long high, long low, int value, int until) {
            int at = find(high, low);
            if (value >= (at < 0 ? GREATEST_MTU : values[at])) {
                return;
            }
            if (at < 0) {
                at = placeForOneMore();
            }
            highs[at] = high;
            lows[at] = low;
            values[at] = value;
            untils[at] = until;
        }

        int placeForOneMore() {
            if (count >= 0 && count < MOST_MTUS) {
                count++;
                return count - 1;
            }
            int least = 0;
            for (int i = 1; i < MOST_MTUS; i++) {
                if (untils[i] < untils[least]) {
                    least = i;
                }
            }
            return least;
        }

        void age(int now) {
            int kept = 0;
            for (int i = 0; i < count && i < MOST_MTUS; i++) {
                if (now < untils[i]) {
                    highs[kept] = highs[i];
                    lows[kept] = lows[i];
                    values[kept] = values[i];
                    untils[kept] = untils[i];
                    kept++;
                }
            }
            count = kept;
        }
    }

    /** The MESSAGES from one HOST to another. */
    private static final class Talk {
        final int from;
        final int to;
        final int[] lengths = new int[MOST_MESSAGES];
        final int[] seeds = new int[MOST_MESSAGES];
        final int[] heardLengths = new int[MOST_MESSAGES];
        final int[] digests = new int[MOST_MESSAGES];
        int count;
        int answered;
        int heard;
        int due;
        int pause;
        boolean tried;

        Talk(int from, int to) {
            this.from = from;
            this.to = to;
        }

        void tell(int length, int seed, int now) {
            if (count < 0 || count >= MOST_MESSAGES) {
                return;
            }
            lengths[count] = length;
            seeds[count] = seed;
            count++;
            if (count == answered + 1) {
                beginNext(now);
            }
        }

        void beginNext(int now) {
            boolean more = answered < count;
            tried = false;
            due = more ? now + 1 : 0;
            pause = more ? FIRST_WAIT : 0;
        }

        void wasSent(int now) {
            tried = true;
            due = now + pause;
            pause = Math.min(2 * pause, LONGEST_WAIT);
        }

        void wasAnswered(int number, int now) {
            if (number == answered && answered < count && tried) {
                answered++;
                beginNext(now);
            }
        }

        void hear(Packet p) {
            if (heard < 0 || heard >= MOST_MESSAGES) {
                return;
            }
            int digest = 7;
            for (int i = FRAGMENT_BODY; i < p.length && i < p.data.length; i++) {
                digest = digest * 31 + (p.data[i] & 0xFF);
            }
            heardLengths[heard] = p.length - FRAGMENT_BODY;
            digests[heard] = digest;
            heard++;
        }
    }
}
