/** Of each call: the last value that is taken, the first that is refused, and which of several refusals it tells. */
public final class EdgeCalls extends Checks {
    private static final int LEAST = Integer.MIN_VALUE;
    private static final int GREATEST = Integer.MAX_VALUE;
    private static final int[] NO_PLACES = {LEAST, -1, 3, 12, 24, GREATEST};

    // ---- promises 1 to 7

    private static void newObject() {
        says("No NODES, no LINKS; NOW 0.");
        Net x = new Net();
        taken(x, "NOW", x.world(0), 0);
        taken(x, "NODES", x.world(1), 0);
        taken(x, "LINKS", x.world(2), 0);
        taken(x, "INTERFACES", x.world(3), 0);
        due("frames()", x.frames(), 0);
        refused(x, "count of NODE 0", x.count(0, 0), 1);
        refused(x, "raise of LINK 0", x.raise(0, false), 1);
        refused(x, "face of INTERFACE 0", x.face(0, 0), 1);
        due("ticks of an empty world", x.tick(40), 40);
        due("frames()", x.frames(), 0);
    }

    private static void nodes() {
        says("NODES 0 .. 11; node: 5");
        for (int kind = 0; kind < 2; kind++) {
            boolean router = kind == 1;
            Net x = new Net();
            for (int i = 0; i < 12; i++) {
                taken(x, "node", x.node(router), i);
            }
            refuses(x, "a thirteenth ROUTER", 5, y -> y.node(true));
            refuses(x, "a thirteenth HOST", 5, y -> y.node(false));
            taken(x, "NODES", x.world(1), 12);
        }
    }

    private static void linkPrefixes() {
        says("link, 4: the highest three bits of the PREFIX are not 001");
        Net x = new Net();
        taken(x, "the least", x.link(0x2000000000000000L, 1500), 0);
        taken(x, "the greatest", x.link(0x3FFFFFFFFFFFFFFFL, 1500), 1);
        for (int bits = 0; bits < 8; bits++) {
            long prefix = (long) bits << 61 | 0x0123456789ABCDEFL;
            if (bits != 1) {
                refuses(x, "bits " + bits, 4, y -> y.link(prefix, 1500));
            }
        }
        refuses(x, "one below", 4, y -> y.link(0x1FFFFFFFFFFFFFFFL, 1500));
        refuses(x, "one above", 4, y -> y.link(0x4000000000000000L, 1500));
        taken(x, "LINKS", x.world(2), 2);
    }

    private static void linkMtus() {
        says("link, 4: the MTU is not 1280 to 1500");
        Net x = new Net();
        int[] wrong = {1279, 1501, 0, -1280, LEAST, GREATEST};
        for (int mtu : wrong) {
            refuses(x, "MTU " + mtu, 4, y -> y.link(P, mtu));
        }
        taken(x, "1280", x.link(P, 1280), 0);
        taken(x, "1500", x.link(Q, 1500), 1);
    }

    private static void linkNumbers() {
        says("LINKS 0 .. 9; link, 5; 6: a LINK has this PREFIX");
        Net x = new Net();
        taken(x, "first", x.link(P, 1500), 0);
        refuses(x, "6: the same PREFIX", 6, y -> y.link(P, 1400));
        taken(x, "one bit beside it", x.link(P + 1, 1500), 1);
        refuses(x, "4 ahead of 6", 4, y -> y.link(P, 1279));
        for (int i = 2; i < 10; i++) {
            taken(x, "one more", x.link(P + i, 1500), i);
        }
        refuses(x, "an eleventh", 5, y -> y.link(P + 10, 1500));
        refuses(x, "5 ahead of 6", 5, y -> y.link(P, 1500));
        refuses(x, "4 ahead of 5", 4, y -> y.link(P + 10, 1501));
        refuses(x, "4 ahead of 5", 4, y -> y.link(0, 1500));
        taken(x, "LINKS", x.world(2), 10);
    }

    private static void attachPlaces() {
        says("attach, 1: no such NODE, LINK");
        Net x = lan(1500);
        for (int place : NO_PLACES) {
            refuses(x, "NODE " + place, 1, y -> y.attach(place, 0, MAC + 9, 9));
            refuses(x, "LINK " + place, 1, y -> y.attach(1, place, MAC + 9, 9));
        }
        refuses(x, "LINK 1 of one", 1, y -> y.attach(1, 1, MAC + 9, 9));
        refuses(x, "1 ahead of 4", 1, y -> y.attach(3, 0, 0, 9));
        refuses(x, "1 ahead of 4", 1, y -> y.attach(1, 1, -1, 9));
        refuses(x, "1 ahead of 5: a HOST that has one", 1, y -> y.attach(0, 1, MAC + 9, 9));
        refuses(x, "1 ahead of 6: a MAC that is there", 1, y -> y.attach(1, 1, MAC + 1, 9));
    }

    private static void attachMacs() {
        says("attach, 4: a MAC is not 1 to 2 ^ 48 - 1, or its first byte is odd");
        Net x = new Net();
        x.node(true);
        x.link(P, 1500);
        x.link(Q, 1500);
        long[] wrong = {0, -1, Long.MIN_VALUE, Long.MAX_VALUE, 1L << 48, 1L << 48 | MAC, 0x010000000000L, 0xFFFFFFFFFFFFL,
            0x333300000001L, 0x030000000002L};
        for (long mac : wrong) {
            refuses(x, "MAC " + Long.toHexString(mac), 4, y -> y.attach(0, 0, mac, 1));
        }
        taken(x, "MAC 1", x.attach(0, 0, 1, 1), 0);
        taken(x, "the greatest with an even first byte", x.attach(0, 1, 0xFEFFFFFFFFFFL, 1), 1);
        due("MAC", x.id(0, 2), 1);
        due("MAC", x.id(1, 2), 0xFEFFFFFFFFFFL);
        refuses(x, "4 ahead of 6: on this LINK", 4, y -> y.attach(0, 0, 0, 1));
    }

    private static void attachIds() {
        says("attach, id 0: EUI of the MAC");
        Net x = new Net();
        for (int i = 0; i < 5; i++) {
            x.node(false);
            x.link(P + i, 1500);
        }
        long[] macs = {0x001122334455L, 0x021122334455L, 0xFC0000FFFFFFL, 0x020000000001L, 0x020000000002L};
        long[] euis = {0x021122FFFE334455L, 0x001122FFFE334455L, 0xFE0000FFFEFFFFFFL, 0xFFFE000001L, 0xFFFE000002L};
        long[] ids = {0, 0, 0, 1, -1};
        for (int i = 0; i < 5; i++) {
            taken(x, "attach", x.attach(i, i, macs[i], ids[i]), i);
            due("LOW of LOCAL", x.id(i, 0), euis[i]);
            due("ID", x.id(i, 1), ids[i] == 0 ? euis[i] : ids[i]);
            due("MAC", x.id(i, 2), macs[i]);
        }
    }

    private static void attachTooMany() {
        says("attach, 5: 24, or a HOST has one");
        Net x = new Net();
        x.node(true);
        x.node(true);
        x.node(true);
        x.node(false);
        for (int i = 0; i < 10; i++) {
            x.link(P + i, 1500);
        }
        for (int i = 0; i < 23; i++) {
            taken(x, "ROUTERS", x.attach(i / 10, i % 10, MAC + 1 + i, 1), i);
        }
        Net y = x.fork();
        taken(x, "a ROUTER's 24th", x.attach(2, 3, MAC + 99, 1), 23);
        refuses(x, "a ROUTER's 25th", 5, z -> z.attach(2, 4, MAC + 100, 1));
        refuses(x, "a HOST's 25th", 5, z -> z.attach(3, 4, MAC + 100, 1));
        refuses(x, "4 ahead of 5", 4, z -> z.attach(2, 4, 0, 1));
        refuses(x, "5 ahead of 6: this MAC", 5, z -> z.attach(2, 4, MAC + 1, 1));
        refuses(x, "5 ahead of 6: this LINK", 5, z -> z.attach(2, 3, MAC + 100, 1));
        taken(y, "a HOST's 24th", y.attach(3, 0, MAC + 99, 1), 23);
        due("INTERFACES", y.world(3), 24);
        Net h = lan(1500);
        h.link(Q, 1500);
        refuses(h, "a HOST's second", 5, z -> z.attach(0, 1, MAC + 9, 1));
        refuses(h, "5 ahead of 6: a HOST's second on its LINK", 5, z -> z.attach(0, 0, MAC + 9, 1));
        refuses(h, "5 ahead of 6: a HOST's second with a MAC that is there", 5, z -> z.attach(0, 1, MAC + 2, 1));
        refuses(h, "4 ahead of 5", 4, z -> z.attach(0, 1, 0, 1));
        taken(h, "a ROUTER's second", h.attach(1, 1, MAC + 9, 1), 3);
    }

    /** ROUTER 0 with this many OWN ROUTES, LINKS P and Q. */
    private static Net owner(int count) {
        Net x = new Net();
        x.node(true);
        x.node(false);
        x.link(P, 1500);
        x.link(Q, 1500);
        for (int i = 0; i < count; i++) {
            taken(x, "own", x.own(0, S + i, 64), i + 1);
        }
        return x;
    }

    private static void attachWithoutRoom() {
        says("attach, 5: a ROUTER has 56 ROUTES, none of this LINK");
        Net x = owner(55);
        taken(x, "a 56th ROUTE by an INTERFACE", x.attach(0, 0, MAC + 1, 1), 0);
        due("ROUTES", x.routes(0), 56);
        refuses(x, "a 57th", 5, y -> y.attach(0, 1, MAC + 2, 1));
        refuses(x, "5 ahead of 6: this MAC", 5, y -> y.attach(0, 1, MAC + 1, 1));
        refuses(x, "6: on this LINK, whose ROUTE is there", 6, y -> y.attach(0, 0, MAC + 2, 1));
        taken(x, "a HOST has no ROUTES", x.attach(1, 1, MAC + 2, 1), 1);
        Net y = owner(54);
        y.own(0, P, 63);
        y.own(0, Q, 64);
        due("ROUTES", y.routes(0), 56);
        refuses(y, "the PREFIX with another LENGTH is none of this LINK", 5, z -> z.attach(0, 0, MAC + 1, 1));
        taken(y, "its ROUTE is there", y.attach(0, 1, MAC + 1, 1), 0);
        due("ROUTES", y.routes(0), 56);
    }

    private static void attachThereAlready() {
        says("attach, 6: this NODE has one on this LINK, or some INTERFACE has this MAC");
        Net x = lan(1500);
        x.link(Q, 1500);
        refuses(x, "this LINK", 6, y -> y.attach(1, 0, MAC + 9, 9));
        refuses(x, "its own MAC", 6, y -> y.attach(1, 1, MAC + 2, 9));
        refuses(x, "another NODE's MAC", 6, y -> y.attach(1, 1, MAC + 3, 9));
        taken(x, "an ID may be there", x.attach(1, 1, MAC + 9, 0x22), 3);
    }

    private static void ownNumbers() {
        says("own, of LENGTH 8 to 64 (bits behind it are left out); 4: LENGTH, or the highest three bits are not 001");
        Net x = owner(0);
        int[] wrong = {7, 65, 0, -1, -64, LEAST, GREATEST};
        for (int length : wrong) {
            refuses(x, "LENGTH " + length, 4, y -> y.own(0, P, length));
        }
        for (int bits = 0; bits < 8; bits++) {
            long prefix = (long) bits << 61;
            if (bits != 1) {
                refuses(x, "bits " + bits, 4, y -> y.own(0, prefix, 64));
            }
        }
        taken(x, "LENGTH 8", x.own(0, 0x3FFFFFFFFFFFFFFFL, 8), 1);
        dueRoute(x, 0, 0, 0x3F00000000000000L, 8, 1, -1, 0, 0);
        taken(x, "LENGTH 9", x.own(0, 0x3FFFFFFFFFFFFFFFL, 9), 2);
        dueRoute(x, 0, 1, 0x3F80000000000000L, 9, 1, -1, 0, 0);
        taken(x, "LENGTH 63", x.own(0, 0x3FFFFFFFFFFFFFFFL, 63), 3);
        dueRoute(x, 0, 2, 0x3FFFFFFFFFFFFFFEL, 63, 1, -1, 0, 0);
        taken(x, "LENGTH 64", x.own(0, 0x3FFFFFFFFFFFFFFFL, 64), 4);
        dueRoute(x, 0, 3, 0x3FFFFFFFFFFFFFFFL, 64, 1, -1, 0, 0);
    }

    private static void ownRefusals() {
        says("own, 1; 3; 4; 5: 56 ROUTES; 6: it has a ROUTE with this PREFIX and LENGTH");
        Net x = owner(55);
        for (int place : NO_PLACES) {
            refuses(x, "1: NODE " + place, 1, y -> y.own(place, P, 64));
        }
        refuses(x, "1: NODE 2 of two, ahead of 4", 1, y -> y.own(2, 0, 0));
        refuses(x, "3: a HOST", 3, y -> y.own(1, P, 64));
        refuses(x, "3 ahead of 4", 3, y -> y.own(1, 0, 0));
        refuses(x, "6: it is there", 6, y -> y.own(0, S, 64));
        refuses(x, "4 ahead of 6", 4, y -> y.own(0, S, 65));
        taken(x, "the same PREFIX, another LENGTH", x.own(0, S, 63), 56);
        refuses(x, "5: a 57th", 5, y -> y.own(0, P, 64));
        refuses(x, "5 ahead of 6", 5, y -> y.own(0, S, 64));
        refuses(x, "4 ahead of 5", 4, y -> y.own(0, P, 7));
        refuses(x, "4 ahead of 5", 4, y -> y.own(0, 0, 64));
        Net y = lan(1500);
        refuses(y, "6: its LINK's", 6, z -> z.own(1, P, 64));
        taken(y, "its LINK's PREFIX with another LENGTH", y.own(1, P, 63), 2);
        refuses(y, "6: the same but for bits behind LENGTH", 6, z -> z.own(1, P + 1, 63));
        Net z = routers(2);
        z.own(0, R, 48);
        z.tick(1);
        z.hurry(9);
        due("a ROUTE that was learnt", z.route(1, 1, 0), R);
        refuses(z, "6: one from a neighbour", 6, w -> w.own(1, R, 48));
    }

    private static void messageRefusals() {
        says("message, 1; 3: not HOSTS; 4: the same one, or length not 0 to 3000, seed not 0 to 255");
        Net x = lan(1500);
        for (int place : NO_PLACES) {
            refuses(x, "1: from " + place, 1, y -> y.message(place, 2, 0, 0));
            refuses(x, "1: to " + place, 1, y -> y.message(0, place, 0, 0));
        }
        refuses(x, "1 ahead of 3", 1, y -> y.message(1, 3, 0, 0));
        refuses(x, "1 ahead of 3", 1, y -> y.message(3, 1, 0, 0));
        refuses(x, "1 ahead of 4", 1, y -> y.message(3, 3, -1, -1));
        refuses(x, "3: from a ROUTER", 3, y -> y.message(1, 0, 0, 0));
        refuses(x, "3: to a ROUTER", 3, y -> y.message(0, 1, 0, 0));
        refuses(x, "3 ahead of 4: the same ROUTER", 3, y -> y.message(1, 1, 0, 0));
        refuses(x, "3 ahead of 4: length", 3, y -> y.message(0, 1, 3001, 0));
        refuses(x, "4: the same one", 4, y -> y.message(0, 0, 0, 0));
        int[] lengths = {-1, 3001, LEAST, GREATEST};
        for (int length : lengths) {
            refuses(x, "4: length " + length, 4, y -> y.message(0, 2, length, 0));
        }
        int[] seeds = {-1, 256, LEAST, GREATEST};
        for (int seed : seeds) {
            refuses(x, "4: seed " + seed, 4, y -> y.message(0, 2, 0, seed));
        }
        taken(x, "length 0, seed 0", x.message(0, 2, 0, 0), 0);
        taken(x, "length 3000, seed 255", x.message(0, 2, 3000, 255), 1);
        taken(x, "numbers go by both HOSTS", x.message(2, 0, 0, 255), 0);
    }

    private static void messageTooMany() {
        says("message, 5: 64 MESSAGES in all");
        Net x = new Net();
        x.node(false);
        x.node(false);
        x.node(false);
        x.node(true);
        for (int i = 0; i < 63; i++) {
            taken(x, "message", x.message(i % 3, (i + 1) % 3, 0, 0), i / 3);
        }
        Net y = x.fork();
        taken(x, "the 64th", x.message(0, 1, 0, 0), 21);
        refuses(x, "the 65th", 5, z -> z.message(0, 1, 0, 0));
        refuses(x, "the 65th, of two that have none", 5, z -> z.message(1, 0, 0, 0));
        refuses(x, "1 ahead of 5", 1, z -> z.message(0, 4, 0, 0));
        refuses(x, "3 ahead of 5", 3, z -> z.message(0, 3, 0, 0));
        refuses(x, "4 ahead of 5", 4, z -> z.message(0, 0, 0, 0));
        refuses(x, "4 ahead of 5", 4, z -> z.message(0, 1, 0, 256));
        taken(y, "the 64th, of two that have none", y.message(2, 1, 0, 0), 0);
        refuses(y, "the 65th", 5, z -> z.message(0, 1, 0, 0));
        Net w = new Net();
        w.node(false);
        w.node(false);
        for (int i = 0; i < 64; i++) {
            taken(w, "all of two HOSTS", w.message(0, 1, 0, 0), i);
        }
        refuses(w, "the 65th", 5, z -> z.message(0, 1, 0, 0));
        due("MESSAGES from 0 to 1", w.sent(0, 1, 0), 64);
    }

    private static void answeredOnesCount() {
        says("message, 5: 64 MESSAGES in all");
        Net x = settledLan(1500);
        x.message(0, 2, 0, 0);
        busyTicks(x, 6);
        due("answered", x.sent(0, 2, 1), 1);
        for (int i = 1; i < 64; i++) {
            taken(x, "one more", x.message(0, 2, 0, 0), i);
        }
        refuses(x, "the 65th, with one answered", 5, z -> z.message(0, 2, 0, 0));
    }

    private static void echoRefusals() {
        says("echo, 1; 4: size not 0 to 3000, or the ADDRESS's highest byte is FF");
        Net x = settledLan(1500);
        for (int place : NO_PLACES) {
            refuses(x, "1: NODE " + place, 1, y -> y.echo(place, P, 1, 0));
        }
        refuses(x, "1 ahead of 4", 1, y -> y.echo(3, -1L, 1, -1));
        int[] sizes = {-1, 3001, LEAST, GREATEST};
        for (int size : sizes) {
            refuses(x, "4: size " + size, 4, y -> y.echo(0, P, 1, size));
        }
        long[] highs = {0xFF00000000000000L, 0xFF02000000000000L, -1L};
        for (long high : highs) {
            refuses(x, "4: HIGH " + Long.toHexString(high), 4, y -> y.echo(0, high, 1, 0));
        }
        taken(x, "size 0", x.echo(0, P, 0x11, 0), 0);
        taken(x, "size 3000", x.echo(0, P, 0x11, 3000), 1);
        taken(x, "HIGH FEFF..", x.echo(0, 0xFEFFFFFFFFFFFFFFL, -1L, 0), 2);
        taken(x, "HIGH 00FF..", x.echo(0, 0x00FFFFFFFFFFFFFFL, 0, 0), 3);
        taken(x, "ADDRESS 0", x.echo(0, 0, 0, 0), 4);
        taken(x, "LOW FF..", x.echo(0, P, -1L, 0), 5);
        due("ECHOES", x.count(0, 0), 6);
    }

    // ---- promises 8 to 13

    private static void tickNumbers() {
        says("tick, 4: n is not 1 to 40");
        Net x = settledLan(1500);
        int[] wrong = {0, -1, 41, LEAST, GREATEST};
        for (int n : wrong) {
            refuses(x, "n " + n, 4, y -> y.tick(n));
        }
        taken(x, "1", x.tick(1), 4);
        taken(x, "40", x.tick(40), 44);
        taken(x, "NOW", x.world(0), 44);
    }

    private static void ticksOneByOne() {
        says("n ticks: NOW");
        Net x = lan(1500);
        Net y = x.fork();
        x.tick(40);
        for (int i = 0; i < 40; i++) {
            y.tick(1);
        }
        due("40 at once are 40 by one", picture(x), picture(y));
    }

    private static void framePlaces() {
        says("deliver, drop, twice, 2: no such frame");
        Net x = lan(1500);
        for (int round = 0; round < 2; round++) {
            int frames = x.frames();
            due("frames", frames, round == 0 ? 0 : 2);
            int[] wrong = {frames, frames + 1, -1, 96, LEAST, GREATEST};
            for (int k : wrong) {
                refuses(x, "deliver " + k + " of " + frames, 2, y -> y.deliver(k));
                refuses(x, "drop " + k + " of " + frames, 2, y -> y.drop(k));
                refuses(x, "twice " + k + " of " + frames, 2, y -> y.twice(k));
                refuses(x, "frame " + k + " of " + frames, 2, y -> y.frame(k, 0));
                refuses(x, "bytes " + k + " of " + frames, 2, y -> y.bytes(k, 0));
            }
            x.tick(1);
        }
        Net y = x.fork();
        taken(x, "deliver the last", x.deliver(x.frames() - 1), x.frames());
        taken(y, "drop the last", y.drop(y.frames() - 1), y.frames());
        taken(y, "twice the first", y.twice(0), y.frames());
        taken(y, "drop the first", y.drop(0), y.frames());
    }

    private static void twiceFull() {
        says("twice, 2; 5: 96");
        Net x = routers(1);
        x.tick(1);
        due("frames", x.frames(), 1);
        for (int i = 2; i <= 96; i++) {
            taken(x, "one like it", x.twice(i - 2), i);
        }
        refuses(x, "a 97th", 5, y -> y.twice(0));
        refuses(x, "a 97th of the last", 5, y -> y.twice(95));
        refuses(x, "2 ahead of 5", 2, y -> y.twice(96));
        refuses(x, "2 ahead of 5", 2, y -> y.twice(-1));
        due("LOST", x.world(5), 0);
        x.drop(50);
        taken(x, "room again", x.twice(0), 96);
    }

    private static void hurryNumbers() {
        says("hurry, n times, or till there is none; 4: n is not 1 to 200");
        Net x = lan(1500);
        x.tick(1);
        int[] wrong = {0, -1, 201, LEAST, GREATEST};
        for (int n : wrong) {
            refuses(x, "n " + n, 4, y -> y.hurry(n));
        }
        Net y = x.fork();
        taken(x, "1", x.hurry(1), 1);
        due("frames", x.frames(), 3);
        taken(x, "one less than there are", x.hurry(2), 2);
        due("frames", x.frames(), 1);
        taken(x, "as many as there are", x.hurry(1), 1);
        taken(x, "none", x.hurry(1), 0);
        taken(y, "200", y.hurry(200), 4);
        taken(y, "200 of none", y.hurry(200), 0);
    }

    /** One ECHO 96 times over, each with its REPLY: near to the 200 that may arrive by one call. */
    private static void hurryEnds() {
        says("hurry, n times, or till there is none; 4: n is not 1 to 200");
        Net x = lan(1500);
        x.tick(1);
        x.hurry(9);
        x.tick(2);
        for (int i = 0; i < 2; i++) {
            x.echo(0, P, 0x22, 0);
            x.hurry(20);
        }
        x.echo(0, P, 0x22, 0);
        for (int i = 0; i < 95; i++) {
            x.twice(0);
        }
        taken(x, "each ECHO arrives, and each REPLY", x.hurry(200), 192);
        due("REPLIES", x.count(0, 1), 98);
        x.echo(0, P, 0x22, 0);
        for (int i = 0; i < 95; i++) {
            x.twice(0);
        }
        taken(x, "no more than n", x.hurry(191), 191);
        due("frames", x.frames(), 1);
        due("REPLIES", x.count(0, 1), 98 + 95);
    }

    private static void raiseRefusals() {
        says("raise, 1; 6: it is so already");
        Net x = lan(1500);
        int[] wrong = {1, -1, 10, LEAST, GREATEST};
        for (int link : wrong) {
            refuses(x, "up, LINK " + link, 1, y -> y.raise(link, true));
            refuses(x, "cut, LINK " + link, 1, y -> y.raise(link, false));
        }
        refuses(x, "up at first", 6, y -> y.raise(0, true));
        x.tick(1);
        taken(x, "cut", x.raise(0, false), 1);
        refuses(x, "cut", 6, y -> y.raise(0, false));
        x.tick(1);
        taken(x, "up", x.raise(0, true), 1);
        refuses(x, "up", 6, y -> y.raise(0, true));
    }

    // ---- promises 14 to 29

    private static void frameAndBytes() {
        says("frame, 2; 4. bytes, 0 for those behind its end; 2: no such frame or byte");
        Net x = lan(1500);
        x.tick(1);
        int[] wrong = {-1, 4, LEAST, GREATEST};
        for (int what : wrong) {
            refuses(x, "frame, what " + what, 4, y -> y.frame(0, what));
            refuses(x, "2 ahead of 4", 2, y -> y.frame(2, what));
        }
        int length = x.frame(0, 3);
        due("an ADVERT's bytes", length, 118);
        int[] places = {-1, length, length + 1, LEAST, GREATEST, GREATEST - 7};
        for (int i : places) {
            refuses(x, "byte " + i, 2, y -> y.bytes(0, i));
        }
        taken(x, "the first eight", x.bytes(1, 0), 0x3333000000090200L);
        int last = x.frame(1, 3) - 1;
        due("a DATAGRAM's bytes", last + 1, 86);
        taken(x, "the last eight", x.bytes(1, last - 7), 0x0000000000004001L);
        taken(x, "seven and one behind", x.bytes(1, last - 6), 0x0000000000400100L);
        taken(x, "the last", x.bytes(1, last), 0x0100000000000000L);
    }

    /** What lay in the same place before must not be seen behind a shorter frame's end. */
    private static void bytesBehindShorter() {
        says("bytes, 0 for those behind its end");
        Net x = settledLan(1500);
        x.echo(0, P, 0x22, 0);
        x.hurry(9);
        x.echo(0, P, 0x22, 1400);
        x.hurry(2);
        x.echo(0, P, 0x22, 1);
        due("bytes", x.frame(0, 3), 14 + 40 + 8 + 1);
        taken(x, "the last", x.bytes(0, 62), 0);
        taken(x, "the last but one", x.bytes(0, 61), 0x0200000000000000L);
    }

    private static void faceAndId() {
        says("face, id: 1; 4");
        Net x = lan(1500);
        for (int place : NO_PLACES) {
            refuses(x, "face of " + place, 1, y -> y.face(place, 0));
            refuses(x, "id of " + place, 1, y -> y.id(place, 0));
            refuses(x, "1 ahead of 4", 1, y -> y.face(place, 5));
            refuses(x, "1 ahead of 4", 1, y -> y.id(place, 3));
        }
        int[] wrong = {-1, 5, LEAST, GREATEST};
        for (int what : wrong) {
            refuses(x, "face, what " + what, 4, y -> y.face(0, what));
            refuses(x, "id, what " + what, 4, y -> y.id(0, what));
        }
        refuses(x, "id, what 3", 4, y -> y.id(0, 3));
        taken(x, "face, what 4", x.face(2, 4), 0);
        taken(x, "id, what 2", x.id(2, 2), MAC + 3);
    }

    private static void entryRefusals() {
        says("entry, 1; 2; 4");
        Net x = settledLan(1500);
        for (int place : NO_PLACES) {
            refuses(x, "INTERFACE " + place, 1, y -> y.entry(place, 0, 0));
            refuses(x, "1 ahead of 2 and 4", 1, y -> y.entry(place, -1, -1));
        }
        int[] wrong = {-1, 1, 32, LEAST, GREATEST};
        for (int j : wrong) {
            refuses(x, "ENTRY " + j, 2, y -> y.entry(0, j, 0));
            refuses(x, "2 ahead of 4", 2, y -> y.entry(0, j, 6));
        }
        int[] whats = {-1, 6, LEAST, GREATEST};
        for (int what : whats) {
            refuses(x, "what " + what, 4, y -> y.entry(0, 0, what));
        }
        taken(x, "what 5", x.entry(0, 0, 5), 0);
        refuses(x, "an INTERFACE without ENTRIES", 2, y -> y.entry(1, 0, 0));
    }

    private static void routeRefusals() {
        says("routes, way: 1; 3. route: 1; 3; 2; 4");
        Net x = lan(1500);
        for (int place : NO_PLACES) {
            refuses(x, "routes of " + place, 1, y -> y.routes(place));
            refuses(x, "way of " + place, 1, y -> y.way(place, P));
            refuses(x, "route of " + place + ", 1 first", 1, y -> y.route(place, -1, -1));
        }
        refuses(x, "routes of a HOST", 3, y -> y.routes(0));
        refuses(x, "way of a HOST", 3, y -> y.way(2, P));
        refuses(x, "route of a HOST, 3 ahead of 2 and 4", 3, y -> y.route(0, 0, 6));
        int[] wrong = {-1, 1, 56, LEAST, GREATEST};
        for (int j : wrong) {
            refuses(x, "ROUTE " + j, 2, y -> y.route(1, j, 0));
            refuses(x, "2 ahead of 4", 2, y -> y.route(1, j, 6));
        }
        int[] whats = {-1, 6, LEAST, GREATEST};
        for (int what : whats) {
            refuses(x, "what " + what, 4, y -> y.route(1, 0, what));
        }
        taken(x, "what 5", x.route(1, 0, 5), 0);
        long[] highs = {0, -1L, Long.MIN_VALUE, Long.MAX_VALUE, P - 1, P + 1};
        for (long high : highs) {
            taken(x, "no way to " + Long.toHexString(high), x.way(1, high), -1);
        }
        Net e = new Net();
        e.node(true);
        taken(e, "a ROUTER without ROUTES", e.routes(0), 0);
        refuses(e, "no ROUTE 0", 2, y -> y.route(0, 0, 0));
        e.status();
        taken(e, "no way: BAD with STATUS 0", e.way(0, P), -1);
    }

    private static void talkRefusals() {
        says("heard: 1; 3. got: 1; 3; 2; 4. sent: 1; 3; 4");
        Net x = settledLan(1500);
        x.message(0, 2, 5, 0);
        x.tick(1);
        x.hurry(9);
        due("HEARD", x.heard(0, 2), 1);
        for (int place : NO_PLACES) {
            refuses(x, "heard", 1, y -> y.heard(place, 0));
            refuses(x, "heard", 1, y -> y.heard(0, place));
            refuses(x, "got, 1 first", 1, y -> y.got(place, 1, -1, -1));
            refuses(x, "got, 1 first", 1, y -> y.got(1, place, -1, -1));
            refuses(x, "sent, 1 first", 1, y -> y.sent(place, 1, -1));
            refuses(x, "sent, 1 first", 1, y -> y.sent(1, place, -1));
        }
        refuses(x, "heard of a ROUTER", 3, y -> y.heard(1, 0));
        refuses(x, "heard by a ROUTER", 3, y -> y.heard(0, 1));
        refuses(x, "got, 3 ahead of 2 and 4", 3, y -> y.got(1, 0, -1, -1));
        refuses(x, "got, 3 ahead of 2 and 4", 3, y -> y.got(0, 1, -1, -1));
        refuses(x, "sent, 3 ahead of 4", 3, y -> y.sent(1, 0, -1));
        refuses(x, "sent, 3 ahead of 4", 3, y -> y.sent(0, 1, 4));
        int[] wrong = {-1, 1, 64, LEAST, GREATEST};
        for (int i : wrong) {
            refuses(x, "got, MESSAGE " + i, 2, y -> y.got(0, 2, i, 0));
            refuses(x, "got, 2 ahead of 4", 2, y -> y.got(0, 2, i, 2));
        }
        refuses(x, "got of none", 2, y -> y.got(2, 0, 0, 0));
        int[] whats = {-1, 4, LEAST, GREATEST};
        for (int what : whats) {
            refuses(x, "got, what " + what, 4, y -> y.got(0, 2, 0, what));
            refuses(x, "sent, what " + what, 4, y -> y.sent(0, 2, what));
            refuses(x, "sent of none, what " + what, 4, y -> y.sent(2, 0, what));
        }
        refuses(x, "got, what 2", 4, y -> y.got(0, 2, 0, 2));
        taken(x, "got, what 1", x.got(0, 2, 0, 0), 5);
        taken(x, "sent, what 3", x.sent(0, 2, 3), 0);
    }

    private static void countAndWorld() {
        says("mtu: 1. count: 1; 4. world: 4");
        Net x = settledLan(1500);
        for (int place : NO_PLACES) {
            refuses(x, "mtu of " + place, 1, y -> y.mtu(place, P, 1));
            refuses(x, "count of " + place, 1, y -> y.count(place, 0));
            refuses(x, "1 ahead of 4", 1, y -> y.count(place, 9));
        }
        int[] wrong = {-1, 9, LEAST, GREATEST};
        for (int what : wrong) {
            refuses(x, "count, what " + what, 4, y -> y.count(0, what));
            refuses(x, "world, what " + what, 4, y -> y.world(what));
        }
        refuses(x, "world, what 7", 4, y -> y.world(7));
        taken(x, "count, what 8", x.count(0, 8), 1);
        taken(x, "world, what 6", x.world(6), 0);
        taken(x, "mtu of an ADDRESS without", x.mtu(0, P, 1), 0);
        taken(x, "mtu of any ADDRESS", x.mtu(2, -1L, Long.MIN_VALUE), 0);
    }

    private static void statuses() {
        says("STATUS of the latest call that can be refused");
        Net x = lan(1500);
        due("0 of a call that was not", x.status(), 0);
        x.tick(0);
        due("4", x.status(), 4);
        due("status() itself can't be refused", x.status(), 4);
        x.frames();
        due("frames() can't be", x.status(), 4);
        x.face(9, 0);
        due("1", x.status(), 1);
        x.drop(0);
        due("2", x.status(), 2);
        x.routes(0);
        due("3", x.status(), 3);
        x.attach(0, 0, MAC + 9, 1);
        due("5", x.status(), 5);
        x.raise(0, true);
        due("6", x.status(), 6);
        x.bytes(0, 0);
        due("2", x.status(), 2);
        x.id(0, 0);
        due("0", x.status(), 0);
        x.tick(0);
        x.way(1, R);
        due("0 of a way that is none", x.status(), 0);
        x.tick(0);
        x.echo(0, P, 1, 0);
        due("0 of an ECHO that is LOST", x.status(), 0);
    }

    public static void main(String[] args) {
        newObject();
        nodes();
        linkPrefixes();
        linkMtus();
        linkNumbers();
        attachPlaces();
        attachMacs();
        attachIds();
        attachTooMany();
        attachWithoutRoom();
        attachThereAlready();
        ownNumbers();
        ownRefusals();
        messageRefusals();
        messageTooMany();
        answeredOnesCount();
        echoRefusals();
        tickNumbers();
        ticksOneByOne();
        framePlaces();
        twiceFull();
        hurryNumbers();
        hurryEnds();
        raiseRefusals();
        frameAndBytes();
        bytesBehindShorter();
        faceAndId();
        entryRefusals();
        routeRefusals();
        talkRefusals();
        countAndWorld();
        statuses();
        end();
    }
}
