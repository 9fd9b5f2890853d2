/** For each promise: ordinary inputs, the edges that the document names, and wrong inputs. */
public final class Promises extends Checks {
    // ---- promises 1 to 6

    private static void newObject() {
        says("1 new");
        Net x = new Net();
        due("status()", x.status(), 0);
        due("frames()", x.frames(), 0);
        for (int what = 0; what < 7; what++) {
            taken(x, "world " + what, x.world(what), 0);
        }
        refused(x, "count(0, 0)", x.count(0, 0), 1);
        refused(x, "face(0, 0)", x.face(0, 0), 1);
        refused(x, "raise(0, false)", x.raise(0, false), 1);
        due("BAD", SixNet.BAD, -1);
        Net y = new Net();
        y.node(true);
        due("another object's world", x.world(1), 0);
    }

    private static void nodes() {
        says("2 node");
        Net x = new Net();
        for (int i = 0; i < 12; i++) {
            taken(x, "node", x.node(i % 2 == 0), i);
        }
        refused(x, "a thirteenth", x.node(true), 5);
        due("world(1)", x.world(1), 12);
        taken(x, "routes(10)", x.routes(10), 0);
        refused(x, "routes(11)", x.routes(11), 3);
    }

    private static void links() {
        says("3 link");
        Net x = new Net();
        taken(x, "least", x.link(0x2000000000000000L, 1280), 0);
        taken(x, "greatest", x.link(0x3FFFFFFFFFFFFFFFL, 1500), 1);
        refused(x, "too low", x.link(0x1FFFFFFFFFFFFFFFL, 1500), 4);
        refused(x, "too high", x.link(0x4000000000000000L, 1500), 4);
        refused(x, "negative", x.link(-1L, 1500), 4);
        refused(x, "mtu 1279", x.link(P, 1279), 4);
        refused(x, "mtu 1501", x.link(P, 1501), 4);
        refused(x, "there", x.link(0x2000000000000000L, 1400), 6);
        refused(x, "4 before 6", x.link(0x2000000000000000L, 1), 4);
        for (int i = 2; i < 10; i++) {
            taken(x, "more", x.link(P + i, 1400), i);
        }
        refused(x, "5 before 6", x.link(P + 2, 1400), 5);
        refused(x, "4 before 5", x.link(0, 1400), 4);
        due("world(2)", x.world(2), 10);
    }

    private static void attachments() {
        says("4 attach");
        Net x = new Net();
        x.node(true);
        x.node(false);
        x.link(P, 1500);
        x.link(Q, 1500);
        refused(x, "no node", x.attach(2, 0, MAC + 1, 1), 1);
        refused(x, "no node -1", x.attach(-1, 0, MAC + 1, 1), 1);
        refused(x, "no link", x.attach(0, 2, 0, 1), 1);
        refused(x, "no link -1", x.attach(0, -1, MAC, 1), 1);
        refused(x, "mac 0", x.attach(0, 0, 0, 1), 4);
        refused(x, "mac 2^48", x.attach(0, 0, 1L << 48, 1), 4);
        refused(x, "mac odd", x.attach(0, 0, 0x010000000000L, 1), 4);
        refused(x, "mac negative", x.attach(0, 0, -2, 1), 4);
        taken(x, "mac 1", x.attach(0, 0, 1, 0), 0);
        due("EUI", x.id(0, 0), 0x020000FFFE000001L);
        due("its id", x.id(0, 1), 0x020000FFFE000001L);
        refused(x, "this link", x.attach(0, 0, 2, 1), 6);
        refused(x, "this mac", x.attach(0, 1, 1, 1), 6);
        taken(x, "greatest mac", x.attach(1, 1, 0xFEFFFFFFFFFFL, -5), 1);
        due("EUI", x.id(1, 0), 0xFCFFFFFFFEFFFFFFL);
        due("its id", x.id(1, 1), -5);
        due("its mac", x.id(1, 2), 0xFEFFFFFFFFFFL);
        refused(x, "a host's second", x.attach(1, 0, 1, 1), 5);
        due("router assigned", x.face(0, 2), 2);
        due("host absent", x.face(1, 2), 0);
        due("world(3)", x.world(3), 2);
        due("routes", x.routes(0), 1);
        attachOnCut();
        attachMany();
    }

    private static void attachOnCut() {
        Net x = new Net();
        x.node(true);
        x.link(P, 1500);
        taken(x, "cut", x.raise(0, false), 0);
        x.tick(3);
        x.attach(0, 0, MAC + 1, 1);
        due("metric", x.route(0, 0, 2), 16);
        due("until", x.route(0, 0, 5), 15);
        due("nobody", x.route(0, 0, 3), -1);
        due("way", x.way(0, P), -1);
        x.tick(11);
        due("there", x.routes(0), 1);
        x.tick(1);
        due("gone", x.routes(0), 0);
        taken(x, "up", x.raise(0, true), 1);
        due("metric", x.route(0, 0, 2), 1);
        due("until", x.route(0, 0, 5), 0);
    }

    private static void attachMany() {
        Net x = new Net();
        for (int i = 0; i < 3; i++) {
            x.node(true);
        }
        for (int i = 0; i < 10; i++) {
            x.link(P + i, 1500);
        }
        for (int i = 0; i < 24; i++) {
            taken(x, "many", x.attach(i / 10, i % 10, MAC + 1 + i, i), i);
        }
        refused(x, "a 25th", x.attach(2, 9, MAC + 1, 1), 5);
        Net y = new Net();
        y.node(true);
        y.link(P, 1500);
        y.link(Q, 1500);
        for (int i = 0; i < 55; i++) {
            taken(y, "own", y.own(0, R + i, 64), i + 1);
        }
        taken(y, "own P", y.own(0, P, 64), 56);
        refused(y, "no room for the route", y.attach(0, 1, MAC + 1, 1), 5);
        taken(y, "its route is there", y.attach(0, 0, MAC + 1, 1), 0);
        due("routes", y.routes(0), 56);
        refused(y, "own beyond", y.own(0, P, 64), 5);
    }

    private static void ownPrefixes() {
        says("5 own");
        Net x = new Net();
        x.node(true);
        x.node(false);
        refused(x, "no node", x.own(2, P, 64), 1);
        refused(x, "a host", x.own(1, P, 64), 3);
        refused(x, "a host and 4", x.own(1, 0, 0), 3);
        refused(x, "length 7", x.own(0, P, 7), 4);
        refused(x, "length 65", x.own(0, P, 65), 4);
        refused(x, "bits", x.own(0, 0x4000000000000000L, 64), 4);
        taken(x, "length 8", x.own(0, 0x20FFFFFFFFFFFFFFL, 8), 1);
        due("cut bits", x.route(0, 0, 0), 0x2000000000000000L);
        refused(x, "there", x.own(0, 0x2012345678901234L, 8), 6);
        taken(x, "other length", x.own(0, 0x2000000000000000L, 9), 2);
        taken(x, "64", x.own(0, 0x3FFFFFFFFFFFFFFFL, 64), 3);
        taken(x, "between", x.own(0, P, 16), 4);
        long[][] want = {{0x2000000000000000L, 8}, {0x2000000000000000L, 9}, {P, 16}, {0x3FFFFFFFFFFFFFFFL, 64}};
        for (int j = 0; j < 4; j++) {
            due("prefix " + j, x.route(0, j, 0), want[j][0]);
            due("length " + j, x.route(0, j, 1), want[j][1]);
            due("metric " + j, x.route(0, j, 2), 1);
            due("until " + j, x.route(0, j, 5), 0);
        }
    }

    private static void messages() {
        says("6 message");
        Net x = new Net();
        x.node(false);
        x.node(false);
        x.node(true);
        refused(x, "no node", x.message(0, 3, 0, 0), 1);
        refused(x, "no node", x.message(-1, 0, -1, 0), 1);
        refused(x, "a router", x.message(0, 2, 0, 0), 3);
        refused(x, "a router", x.message(2, 0, -1, 0), 3);
        refused(x, "the same", x.message(1, 1, 0, 0), 4);
        refused(x, "length", x.message(0, 1, -1, 0), 4);
        refused(x, "length", x.message(0, 1, 3001, 0), 4);
        refused(x, "seed", x.message(0, 1, 0, -1), 4);
        refused(x, "seed", x.message(0, 1, 0, 256), 4);
        for (int i = 0; i < 32; i++) {
            taken(x, "there", x.message(0, 1, 3000, 255), i);
            taken(x, "back", x.message(1, 0, 0, 0), i);
        }
        refused(x, "a 65th", x.message(0, 1, 0, 0), 5);
        refused(x, "4 before 5", x.message(0, 0, 0, 0), 4);
        due("sent", x.sent(0, 1, 0), 32);
    }

    // ---- promises 7 to 13

    private static void echoes() {
        says("7 echo");
        Net x = settledLan(1500);
        refused(x, "no node", x.echo(3, P, 1, 0), 1);
        refused(x, "size", x.echo(0, P, 1, -1), 4);
        refused(x, "size", x.echo(0, P, 1, 3001), 4);
        refused(x, "to many", x.echo(0, 0xFF02000000000000L, 1, 0), 4);
        refused(x, "to many", x.echo(0, -1L, 1, 0), 4);
        due("none so far", x.count(0, 0), 0);
        taken(x, "to itself", x.echo(0, P, 0x11, 3000), 0);
        taken(x, "to itself", x.echo(0, LOCAL, EUI + 1, 0), 1);
        due("replies", x.count(0, 1), 2);
        due("frames", x.frames(), 0);
        taken(x, "third", x.echo(0, P, 0x22, 3), 2);
        due("frames", x.frames(), 1);
        due("waiting", x.face(0, 4), 1);
        due("asks", plain(x, 0, 56), header(0x3333FF000022L, MAC + 1, 32, 58, 255) + address(P, 0x11) + MANY
            + "00000001FF000022" + "8700....00000000" + address(P, 0x22) + "0101" + of(MAC + 1, 6));
        due("tell", x.deliver(0), 1);
        due("tells", plain(x, 0, 56), header(MAC + 1, MAC + 3, 32, 58, 255) + address(P, 0x22) + address(P, 0x11)
            + "8800....60000000" + address(P, 0x22) + "0201" + of(MAC + 3, 6));
        due("goes", x.deliver(0), 1);
        due("echo", plain(x, 0, 56), header(MAC + 3, MAC + 1, 11, 58, 64) + address(P, 0x11) + address(P, 0x22)
            + "8000....00000002000102");
        due("replies", x.deliver(0), 1);
        due("reply", plain(x, 0, 56), header(MAC + 1, MAC + 3, 11, 58, 64) + address(P, 0x22) + address(P, 0x11)
            + "8100....00000002000102");
        x.hurry(1);
        due("replies", x.count(0, 1), 3);
        due("echoes", x.count(0, 0), 3);
        Net y = lan(1500);
        taken(y, "no address yet", y.echo(0, P, 1, 0), 0);
        due("lost", y.world(5), 1);
        taken(y, "a router without a way", y.echo(1, 0x3000000000000000L, 1, 0), 0);
        due("lost", y.world(5), 2);
        due("frames", y.frames(), 0);
    }

    private static void ticks() {
        says("8 tick");
        Net x = lan(1500);
        refused(x, "0", x.tick(0), 4);
        refused(x, "41", x.tick(41), 4);
        refused(x, "-1", x.tick(-1), 4);
        due("now", x.world(0), 0);
        taken(x, "1", x.tick(1), 1);
        due("frames", x.frames(), 2);
        due("advert", plain(x, 0, 56), header(0x333300000001L, MAC + 2, 64, 58, 255) + address(LOCAL, EUI + 2) + MANY
            + "0000000000000001" + "8600....40000028" + ZERO8 + "0101" + of(MAC + 2, 6) + "05010000000005DC"
            + "030440C000000028" + "0000002800000000" + of(P, 8) + ZERO8);
        due("datagram", plain(x, 1, 60), header(0x333300000009L, MAC + 2, 32, 17, 255) + address(LOCAL, EUI + 2) + MANY
            + "0000000000000009" + "020902090020...." + "02010000" + of(P, 8) + ZERO8 + "00004001");
        taken(x, "40", x.tick(40), 41);
        due("frames of 33 .. 41", x.frames(), 2);
        due("sent so far", x.world(4), 5 + 7);
        Net y = lan(1500);
        y.tick(1);
        y.tick(8);
        due("8 ticks ago", y.frames(), 3);
        y.tick(1);
        due("9 ticks ago", y.frames(), 1);
    }

    private static void deliveries() {
        says("9 deliver");
        Net x = lan(1500);
        x.tick(1);
        refused(x, "-1", x.deliver(-1), 2);
        refused(x, "2", x.deliver(2), 2);
        taken(x, "datagram", x.deliver(1), 1);
        taken(x, "advert", x.deliver(0), 2);
        refused(x, "2", x.deliver(2), 2);
        due("first face", x.frame(0, 1), 0);
        due("then", x.frame(1, 1), 2);
        due("trying", x.face(0, 2), 1);
        due("asks from nobody", plain(x, 0, 56), header(0x3333FF000011L, MAC + 1, 24, 58, 255) + ZERO8 + ZERO8 + MANY
            + "00000001FF000011" + "8700....00000000" + address(P, 0x11));
        says("10 drop");
        refused(x, "-1", x.drop(-1), 2);
        refused(x, "2", x.drop(2), 2);
        taken(x, "first", x.drop(0), 1);
        due("the other is there", x.frame(0, 1), 2);
        taken(x, "last", x.drop(0), 0);
        refused(x, "none", x.drop(0), 2);
        due("lost", x.world(5), 0);
    }

    private static void copies() {
        says("11 twice");
        Net x = lan(1500);
        x.tick(1);
        refused(x, "-1", x.twice(-1), 2);
        refused(x, "2", x.twice(2), 2);
        x.tick(2);
        String first = hex(x, 0);
        taken(x, "first", x.twice(0), 3);
        due("bytes", hex(x, 2), first);
        due("link", x.frame(2, 0), 0);
        due("face", x.frame(2, 1), 1);
        due("tick", x.frame(2, 2), 1);
        for (int i = 4; i <= 96; i++) {
            taken(x, "more", x.twice(1), i);
        }
        refused(x, "97", x.twice(0), 5);
        refused(x, "2 before 5", x.twice(96), 2);
        due("lost", x.world(5), 0);
        x.own(1, Q, 64);
        x.tick(1);
        due("full", x.frames(), 96);
        due("lost by a tick", x.world(5), 1);
        due("sent", x.world(4), 2);
        x.deliver(0);
        due("what came makes room first", x.frames(), 96);
        due("and one finds none", x.world(5), 2);
        x.tick(6);
        due("all of tick 1 vanish", x.frames(), 1);
        due("the one of tick 4 stays", x.frame(0, 2), 4);
    }

    private static void hurries() {
        says("12 hurry");
        Net x = lan(1500);
        refused(x, "0", x.hurry(0), 4);
        refused(x, "201", x.hurry(201), 4);
        taken(x, "none", x.hurry(200), 0);
        x.tick(1);
        taken(x, "one", x.hurry(1), 1);
        due("frames", x.frames(), 3);
        taken(x, "all", x.hurry(200), 3);
        due("frames", x.frames(), 0);
    }

    private static void raises() {
        says("13 raise");
        Net x = new Net();
        x.node(true);
        x.node(true);
        x.node(false);
        x.link(P, 1500);
        x.link(Q, 1500);
        x.attach(0, 0, MAC + 1, 1);
        x.attach(0, 1, MAC + 2, 1);
        x.attach(1, 1, MAC + 3, 2);
        x.attach(2, 1, MAC + 4, 3);
        refused(x, "no link", x.raise(2, true), 1);
        refused(x, "no link", x.raise(-1, true), 1);
        refused(x, "up already", x.raise(1, true), 6);
        x.tick(1);
        due("frames", x.frames(), 4);
        taken(x, "cut", x.raise(1, false), 2);
        due("those of LINK 0 stay", x.frames(), 1);
        due("which", x.frame(0, 0), 0);
        refused(x, "cut already", x.raise(1, false), 6);
        due("metric", x.route(0, 1, 2), 16);
        due("until", x.route(0, 1, 5), 13);
        due("way", x.way(0, Q), -1);
        due("the other way", x.way(0, P), 0);
        x.tick(1);
        due("only on LINK 0", x.frames(), 2);
        due("what is told", hex(x, 1).substring(2 * 66), of(Q, 8) + ZERO8 + "00004010");
        taken(x, "up", x.raise(1, true), 2);
        due("metric", x.route(0, 1, 2), 1);
        due("until", x.route(0, 1, 5), 0);
        x.tick(1);
        due("told on both", x.frames(), 5);
    }

    // ---- promises 14 to 22

    private static void frameQueries() {
        says("14 frames");
        Net x = lan(1500);
        x.frame(0, 0);
        due("frames", x.frames(), 0);
        due("STATUS stays", x.status(), 2);
        x.tick(1);
        due("frames", x.frames(), 2);
        says("15 frame");
        refused(x, "-1", x.frame(-1, 0), 2);
        refused(x, "2 before 4", x.frame(2, 9), 2);
        refused(x, "what", x.frame(0, 4), 4);
        refused(x, "what", x.frame(0, -1), 4);
        taken(x, "link", x.frame(0, 0), 0);
        taken(x, "face", x.frame(0, 1), 1);
        taken(x, "tick", x.frame(0, 2), 1);
        taken(x, "bytes", x.frame(0, 3), 118);
        taken(x, "bytes", x.frame(1, 3), 86);
        says("16 bytes");
        refused(x, "no frame", x.bytes(2, 0), 2);
        refused(x, "no frame", x.bytes(-1, 0), 2);
        refused(x, "no byte", x.bytes(0, -1), 2);
        refused(x, "no byte", x.bytes(0, 118), 2);
        taken(x, "first", x.bytes(0, 0), 0x3333000000010200L);
        taken(x, "within", x.bytes(0, 6), 0x02000000000286DDL);
        taken(x, "last", x.bytes(1, 85), 0x0100000000000000L);
        taken(x, "last but three", x.bytes(1, 82), 0x0000400100000000L);
    }

    private static void faceQueries() {
        says("17 face");
        Net x = lan(1500);
        refused(x, "-1", x.face(-1, 0), 1);
        refused(x, "1 before 4", x.face(3, 9), 1);
        refused(x, "what", x.face(0, 5), 4);
        refused(x, "what", x.face(0, -1), 4);
        taken(x, "node", x.face(2, 0), 2);
        taken(x, "link", x.face(2, 1), 0);
        taken(x, "absent", x.face(2, 2), 0);
        x.tick(1);
        x.hurry(9);
        taken(x, "trying", x.face(2, 2), 1);
        taken(x, "entries", x.face(2, 3), 1);
        x.tick(1);
        taken(x, "trying yet", x.face(2, 2), 1);
        x.tick(1);
        taken(x, "assigned", x.face(2, 2), 2);
        x.echo(2, P, 0x77, 1);
        x.echo(2, P, 0x77, 2);
        taken(x, "waiting", x.face(2, 4), 2);
        taken(x, "entries", x.face(2, 3), 2);
        says("18 id");
        refused(x, "-1", x.id(-1, 0), 1);
        refused(x, "1 before 4", x.id(3, 9), 1);
        refused(x, "what", x.id(0, 3), 4);
        refused(x, "what", x.id(0, -1), 4);
        taken(x, "local", x.id(2, 0), EUI + 3);
        taken(x, "id", x.id(2, 1), 0x22);
        taken(x, "mac", x.id(2, 2), MAC + 3);
    }

    private static void entryQueries() {
        says("19 entry");
        Net x = settledLan(1500);
        refused(x, "-1", x.entry(-1, 0, 0), 1);
        refused(x, "1 first", x.entry(3, 9, 9), 1);
        refused(x, "no entry", x.entry(0, 1, 9), 2);
        refused(x, "no entry", x.entry(0, -1, 0), 2);
        refused(x, "what", x.entry(0, 0, 6), 4);
        refused(x, "what", x.entry(0, 0, -1), 4);
        dueEntry(x, 0, 0, LOCAL, EUI + 2, MAC + 2, 2, 0, 0);
        x.echo(0, P, 0x22, 0);
        dueEntry(x, 0, 1, P, 0x22, 0, 0, 4, 1);
        x.tick(1);
        dueEntry(x, 0, 1, P, 0x22, 0, 0, 5, 2);
        due("asks again", x.frames(), 2);
        x.drop(0);
        x.hurry(2);
        dueEntry(x, 0, 1, P, 0x22, MAC + 3, 1, 34, 0);
        dueEntry(x, 2, 1, P, 0x11, MAC + 1, 3, 9, 0);
        x.hurry(9);
        x.tick(5);
        dueEntry(x, 2, 1, P, 0x11, MAC + 1, 4, 10, 1);
        due("asks the one it knows", plain(x, x.frames() - 1, 56), header(MAC + 1, MAC + 3, 32, 58, 255)
            + address(P, 0x22) + address(P, 0x11) + "8700....00000000" + address(P, 0x11) + "0101" + of(MAC + 3, 6));
        x.tick(1);
        dueEntry(x, 2, 1, P, 0x11, MAC + 1, 4, 11, 2);
        x.hurry(20);
        dueEntry(x, 2, 1, P, 0x11, MAC + 1, 1, 40, 0);
        x.tick(24);
        dueEntry(x, 0, 1, P, 0x22, MAC + 3, 2, 0, 0);
        entriesEnd();
        entriesAreFull();
    }

    private static void entriesEnd() {
        Net x = settledLan(1500);
        for (int i = 0; i < 4; i++) {
            x.echo(0, P, 0x99, i);
        }
        due("one of four is lost", x.world(5), 1);
        due("three wait", x.world(6), 3);
        x.tick(1);
        x.tick(1);
        dueEntry(x, 0, 1, P, 0x99, 0, 0, 6, 3);
        x.tick(1);
        due("gone", x.face(0, 3), 1);
        due("told of all", x.count(0, 2), 3);
        due("none waits", x.world(6), 0);
        Net y = settledLan(1500);
        due("router known", y.count(0, 7), 1);
        y.echo(0, Q, 1, 0);
        dueEntry(y, 0, 0, LOCAL, EUI + 2, MAC + 2, 3, 8, 0);
        y.tick(7);
        due("tries", y.entry(0, 0, 5), 3);
        due("router known", y.count(0, 7), 1);
        y.tick(1);
        due("gone", y.face(0, 3), 0);
        due("router gone", y.count(0, 7), 0);
        y.echo(0, Q, 1, 0);
        due("no way", y.world(5), 1);
    }

    private static void entriesAreFull() {
        Net x = settledLan(1500);
        for (int i = 0; i < 31; i++) {
            x.echo(0, P, 0x100 + i, 0);
        }
        due("entries", x.face(0, 3), 32);
        x.echo(0, P, 0x200, 0);
        due("lost", x.world(5), 1);
        due("entries", x.face(0, 3), 32);
        for (int i = 0; i < 16; i++) {
            x.echo(2, P, 0x100 + i, 0);
        }
        x.echo(2, P, 0x100, 0);
        due("all that may wait", x.world(6), 48);
        x.echo(2, P, 0x100, 1);
        due("lost", x.world(5), 2);
        x.echo(2, P, 0x180, 1);
        due("lost", x.world(5), 3);
        due("yet asked for", x.face(2, 3), 18);
        due("by a frame", x.frames(), 31 + 17);
    }

    private static void routeQueries() {
        says("20 routes");
        Net x = lan(1500);
        refused(x, "no node", x.routes(3), 1);
        refused(x, "no node", x.routes(-1), 1);
        refused(x, "a host", x.routes(0), 3);
        taken(x, "one", x.routes(1), 1);
        says("21 route");
        refused(x, "no node", x.route(3, 9, 9), 1);
        refused(x, "a host", x.route(0, 9, 9), 3);
        refused(x, "no route", x.route(1, 1, 9), 2);
        refused(x, "no route", x.route(1, -1, 0), 2);
        refused(x, "what", x.route(1, 0, 6), 4);
        refused(x, "what", x.route(1, 0, -1), 4);
        long[] want = {P, 64, 1, -1, 0, 0};
        for (int what = 0; what < 6; what++) {
            taken(x, "route " + what, x.route(1, 0, what), want[what]);
        }
        says("22 way");
        refused(x, "no node", x.way(3, P), 1);
        refused(x, "a host", x.way(0, P), 3);
        taken(x, "link", x.way(1, P), 0);
        taken(x, "none", x.way(1, Q), -1);
        x.own(1, P, 16);
        x.own(1, P, 48);
        taken(x, "the longest", x.way(1, P), 2);
        taken(x, "48", x.way(1, P + 5), 1);
        taken(x, "16", x.way(1, P + (1L << 40)), 0);
        taken(x, "none", x.way(1, P + (1L << 48)), -1);
    }

    /** ROUTERS 0 and 1 on one LINK; ROUTER 1 has another behind it. */
    private static void routesTravel() {
        says("5 ROUTES");
        Net x = new Net();
        x.node(true);
        x.node(true);
        x.link(P, 1500);
        x.link(Q, 1500);
        x.attach(0, 0, MAC + 1, 1);
        x.attach(1, 0, MAC + 2, 2);
        x.attach(1, 1, MAC + 3, 1);
        x.tick(1);
        x.hurry(50);
        due("learnt", x.routes(0), 2);
        long[] want = {Q, 64, 2, 0, EUI + 2, 19};
        for (int what = 0; what < 6; what++) {
            due("route " + what, x.route(0, 1, what), want[what]);
        }
        x.tick(1);
        due("changed ones alone", hex(x, 0).substring(2 * 66), of(Q, 8) + ZERO8 + "00004010");
        x.hurry(50);
        due("poison is no route", x.route(1, 1, 3), -1);
        x.tick(16);
        due("told in time", x.route(0, 1, 2), 2);
        x.tick(1);
        due("not told for 18 ticks", x.route(0, 1, 2), 16);
        due("until", x.route(0, 1, 5), 31);
        due("way", x.way(0, Q), -1);
        x.tick(11);
        due("there", x.routes(0), 2);
        x.tick(1);
        due("gone", x.routes(0), 1);
    }

    private static void loop() {
        says("4 OUT OF TIME");
        Net x = new Net();
        x.node(true);
        x.node(true);
        x.link(P, 1500);
        x.link(Q, 1500);
        x.link(R, 1500);
        x.attach(0, 0, MAC + 1, 1);
        x.attach(0, 1, MAC + 2, 1);
        x.attach(0, 2, MAC + 3, 1);
        x.attach(1, 0, MAC + 4, 2);
        x.attach(1, 1, MAC + 5, 2);
        x.tick(1);
        x.hurry(50);
        due("ROUTER 1 goes by LINK 0", x.route(1, 2, 3), 3);
        x.tick(1);
        x.raise(2, false);
        x.hurry(50);
        due("ROUTER 0 believes it by LINK 1", x.route(0, 2, 3), 1);
        x.echo(0, R, 7, 0);
        x.hurry(200);
        due("forwarded by 0", x.count(0, 5), 31);
        due("forwarded by 1", x.count(1, 5), 32);
        due("out of time", x.count(0, 3), 1);
    }

    // ---- promises 23 to 29

    private static void talks() {
        says("7 MESSAGES");
        Net x = settledLan(1500);
        taken(x, "none", x.sent(0, 2, 2), 0);
        x.message(0, 2, 3, 5);
        x.message(0, 2, 1453, 0);
        long[] told = {2, 0, 4, 4};
        for (int what = 0; what < 4; what++) {
            taken(x, "sent " + what, x.sent(0, 2, what), told[what]);
        }
        x.tick(1);
        due("due", x.sent(0, 2, 2), 8);
        due("then", x.sent(0, 2, 3), 8);
        x.hurry(2);
        due("message", plain(x, 0, 56), header(MAC + 3, MAC + 1, 11, 253, 64) + address(P, 0x11) + address(P, 0x22)
            + "0102....00000000052443");
        x.hurry(1);
        due("heard", x.heard(0, 2), 1);
        due("answer", plain(x, 0, 56), header(MAC + 1, MAC + 3, 8, 253, 64) + address(P, 0x22) + address(P, 0x11)
            + "0220....00000000");
        x.hurry(1);
        due("answered", x.sent(0, 2, 1), 1);
        due("next is due", x.sent(0, 2, 2), 5);
        due("then", x.sent(0, 2, 3), 4);
        x.tick(1);
        due("cut", x.frames(), 2);
        due("parts", x.frame(0, 3), 1510);
        due("parts", x.frame(1, 3), 75);
        due("first", hex(x, 0).substring(0, 2 * 62), header(MAC + 3, MAC + 1, 1456, 44, 64) + address(P, 0x11)
            + address(P, 0x22) + "FD00000100000001");
        due("last", hex(x, 1).substring(0, 2 * 62), header(MAC + 3, MAC + 1, 21, 44, 64) + address(P, 0x11)
            + address(P, 0x22) + "FD0005A800000001");
        x.deliver(1);
        due("puts together", x.count(2, 6), 1);
        due("not yet", x.heard(0, 2), 1);
        x.deliver(0);
        due("put together", x.count(2, 6), 0);
        due("heard", x.heard(0, 2), 2);
        x.hurry(9);
        due("answered", x.sent(0, 2, 1), 2);
        due("none is due", x.sent(0, 2, 2), 0);
        due("nor waits", x.sent(0, 2, 3), 0);
        talkQueries(x);
        pauses();
    }

    private static void talkQueries(Net x) {
        says("23 heard");
        refused(x, "no node", x.heard(0, 3), 1);
        refused(x, "no node", x.heard(-1, 0), 1);
        refused(x, "a router", x.heard(0, 1), 3);
        refused(x, "a router", x.heard(1, 0), 3);
        taken(x, "two", x.heard(0, 2), 2);
        taken(x, "none back", x.heard(2, 0), 0);
        taken(x, "none of itself", x.heard(0, 0), 0);
        says("24 got");
        refused(x, "no node", x.got(0, 3, 9, 9), 1);
        refused(x, "a router", x.got(0, 1, 9, 9), 3);
        refused(x, "no message", x.got(0, 2, 2, 9), 2);
        refused(x, "no message", x.got(0, 2, -1, 0), 2);
        refused(x, "no message", x.got(2, 0, 0, 0), 2);
        refused(x, "what", x.got(0, 2, 0, 2), 4);
        refused(x, "what", x.got(0, 2, 0, -1), 4);
        taken(x, "length", x.got(0, 2, 0, 0), 3);
        taken(x, "digest", x.got(0, 2, 0, 1), 214525);
        taken(x, "length", x.got(0, 2, 1, 0), 1453);
        int d = 7;
        for (int k = 0; k < 1453; k++) {
            d = d * 31 + 31 * k % 256;
        }
        taken(x, "digest", x.got(0, 2, 1, 1), d);
        says("25 sent");
        refused(x, "no node", x.sent(0, 3, 9), 1);
        refused(x, "a router", x.sent(1, 0, 9), 3);
        refused(x, "what", x.sent(0, 2, 4), 4);
        refused(x, "what", x.sent(0, 2, -1), 4);
        taken(x, "none back", x.sent(2, 0, 0), 0);
        taken(x, "none of itself", x.sent(0, 0, 0), 0);
    }

    private static void pauses() {
        says("25 sent");
        Net x = new Net();
        x.node(false);
        x.node(false);
        x.message(0, 1, 0, 0);
        int[] dueAt = {1, 5, 13, 29, 61, 93, 125};
        int[] pause = {4, 8, 16, 32, 32, 32, 32};
        for (int i = 0; i < 6; i++) {
            due("due", x.sent(0, 1, 2), dueAt[i]);
            due("pause", x.sent(0, 1, 3), pause[i]);
            due("lost", x.world(5), i);
            x.tick(dueAt[i] - x.world(0));
        }
        due("due", x.sent(0, 1, 2), 125);
        Net y = settledLan(1500);
        y.message(0, 2, 1, 1);
        y.tick(1);
        y.hurry(2);
        y.twice(0);
        y.hurry(9);
        due("heard once", y.heard(0, 2), 1);
        due("answered", y.sent(0, 2, 1), 1);
        y.message(0, 2, 1, 1);
        due("the next", y.sent(0, 2, 0), 2);
        due("not answered", y.sent(0, 2, 1), 1);
    }

    private static void tooBig() {
        says("26 mtu");
        Net x = twoLinks(1500, 1280);
        refused(x, "no node", x.mtu(3, P, 1), 1);
        refused(x, "no node", x.mtu(-1, P, 1), 1);
        taken(x, "none", x.mtu(0, Q, 0x22), 0);
        x.echo(0, Q, 0x22, 1233);
        due("whole to the router", x.frame(0, 3), 14 + 1281);
        String whole = hex(x, 0).substring(28);
        x.hurry(1);
        due("the router asks for the host", x.frames(), 1);
        x.hurry(2);
        due("too big", plain(x, 0, 56), header(MAC + 1, MAC + 2, 1240, 58, 64) + address(P, 1) + address(P, 0x11)
            + "0200....00000500" + whole.substring(0, 2 * 1232));
        x.hurry(1);
        due("counted", x.count(0, 4), 1);
        taken(x, "known", x.mtu(0, Q, 0x22), 1280);
        taken(x, "for it alone", x.mtu(0, Q, 0x23), 0);
        x.echo(0, Q, 0x22, 1233);
        due("cut", x.frames(), 2);
        due("first", x.frame(0, 3), 14 + 1280);
        due("last", x.frame(1, 3), 14 + 40 + 8 + 9);
        x.hurry(20);
        due("reply", x.count(0, 1), 1);
        due("forwarded", x.count(1, 5), 2 + 2);
        x.tick(40);
        x.tick(19);
        taken(x, "known for 60 ticks", x.mtu(0, Q, 0x22), 1280);
        x.tick(1);
        taken(x, "then not", x.mtu(0, Q, 0x22), 0);
        unreachable();
        partsOutOfTime();
    }

    private static void unreachable() {
        says("27 count");
        Net x = twoLinks(1500, 1500);
        x.echo(0, R, 1, 2);
        String about = hex(x, 0).substring(28);
        x.hurry(3);
        due("no route", plain(x, 0, 56), header(MAC + 1, MAC + 2, 58, 58, 64) + address(P, 1) + address(P, 0x11)
            + "0100....00000000" + about);
        x.hurry(1);
        due("counted", x.count(0, 2), 1);
        x.echo(0, Q, 0x99, 0);
        x.hurry(1);
        due("waits at the router", x.face(2, 4), 1);
        x.tick(3);
        due("no neighbour", hex(x, x.frames() - 1).substring(2 * 54, 2 * 56), "0103");
        x.hurry(20);
        due("counted", x.count(0, 2), 2);
        x.own(1, R, 48);
        x.echo(0, R + 5, 77, 1);
        x.hurry(9);
        due("an own prefix answers", x.count(0, 1), 1);
        due("not forwarded", x.count(1, 5), 1);
    }

    private static void partsOutOfTime() {
        Net x = settledLan(1280);
        x.echo(0, P, 0x22, 1300);
        x.hurry(2);
        due("parts", x.frames(), 2);
        x.drop(1);
        String about = hex(x, 0).substring(28);
        x.hurry(1);
        due("puts together", x.count(2, 6), 1);
        x.tick(6);
        x.hurry(50);
        x.tick(3);
        due("yet", x.count(2, 6), 1);
        x.hurry(50);
        x.tick(1);
        due("given up", x.count(2, 6), 0);
        due("out of time", plain(x, x.frames() - 1, 56), header(MAC + 1, MAC + 3, 1240, 58, 64) + address(P, 0x22)
            + address(P, 0x11) + "0301....00000000" + about.substring(0, 2 * 1232));
        x.hurry(9);
        due("counted", x.count(0, 3), 1);
        x.echo(0, P, 0x22, 1300);
        x.drop(0);
        x.hurry(1);
        due("puts together", x.count(2, 6), 1);
        x.tick(9);
        x.hurry(50);
        x.tick(1);
        due("without the first part nothing goes", x.frames(), 0);
        for (int i = 0; i < 5; i++) {
            x.echo(0, P, 0x22, 1300);
            x.drop(x.frames() - 1);
        }
        x.hurry(9);
        due("four at a time", x.count(2, 6), 4);
        due("the fifth is lost", x.world(5), 1);
    }

    private static void counts() {
        says("27 count");
        Net x = settledLan(1500);
        refused(x, "no node", x.count(3, 9), 1);
        refused(x, "no node", x.count(-1, 0), 1);
        refused(x, "what", x.count(0, 9), 4);
        refused(x, "what", x.count(0, -1), 4);
        int[] want = {0, 0, 0, 0, 0, 0, 0, 1, 1};
        for (int what = 0; what < 9; what++) {
            taken(x, "host " + what, x.count(0, what), want[what]);
            taken(x, "router " + what, x.count(1, what), 0);
        }
        x.raise(0, false);
        x.tick(37);
        due("router", x.count(0, 7), 1);
        due("on link", x.count(0, 8), 1);
        x.tick(1);
        due("router gone", x.count(0, 7), 0);
        due("on link no more", x.count(0, 8), 0);
        fiveRouters();
    }

    private static void fiveRouters() {
        Net x = new Net();
        x.link(P, 1500);
        for (int i = 0; i < 5; i++) {
            x.node(true);
            x.attach(i, 0, MAC + 1 + i, 1 + i);
        }
        x.node(false);
        x.attach(5, 0, MAC + 9, 9);
        x.tick(5);
        x.hurry(200);
        x.tick(5);
        x.hurry(200);
        due("entries", x.face(5, 3), 5);
        due("four routers", x.count(5, 7), 4);
    }

    private static void worlds() {
        says("28 world");
        Net x = settledLan(1500);
        refused(x, "7", x.world(7), 4);
        refused(x, "-1", x.world(-1), 4);
        int[] want = {3, 3, 1, 3, 4, 0, 0};
        for (int what = 0; what < 7; what++) {
            taken(x, "world " + what, x.world(what), want[what]);
        }
        x.raise(0, false);
        x.echo(0, P, 0x22, 0);
        due("no frame on what is cut", x.world(4), 4);
        due("nor is it lost", x.world(5), 0);
        due("it waits", x.world(6), 1);
        says("29 status");
        due("0", x.status(), 0);
        x.tick(0);
        due("4", x.status(), 4);
        due("4 again", x.status(), 4);
        x.frames();
        due("frames() leaves it", x.status(), 4);
        x.way(1, 0);
        due("a way that is none", x.status(), 0);
    }

    private static void doubles() {
        says("3 DOUBLE");
        Net x = new Net();
        x.node(false);
        x.node(true);
        x.node(false);
        x.link(P, 1500);
        x.attach(0, 0, MAC + 1, 7);
        x.attach(1, 0, MAC + 2, 1);
        x.attach(2, 0, MAC + 3, 7);
        x.tick(1);
        x.hurry(3);
        due("trying", x.face(0, 2), 1);
        due("hears the other", x.face(2, 2), 3);
        x.hurry(1);
        due("hears the other", x.face(0, 2), 3);
        x.tick(2);
        due("for ever", x.face(0, 2), 3);
        Net y = new Net();
        y.node(false);
        y.node(true);
        y.link(P, 1500);
        y.attach(0, 0, MAC + 1, 7);
        y.attach(1, 0, MAC + 2, 7);
        y.tick(1);
        y.hurry(2);
        y.deliver(0);
        due("told to all", plain(y, 0, 56), header(0x333300000001L, MAC + 2, 32, 58, 255) + address(P, 7) + MANY
            + "0000000000000001" + "8800....A0000000" + address(P, 7) + "0201" + of(MAC + 2, 6));
        y.deliver(0);
        due("double", y.face(0, 2), 3);
    }

    /** The HOST's packet goes round between two ROUTERS till its HOPS are used up. */
    private static void outOfTimeFrame() {
        says("4 OUT OF TIME");
        Net x = new Net();
        x.node(true);
        x.node(true);
        x.node(false);
        x.link(P, 1500);
        x.link(Q, 1500);
        x.link(R, 1500);
        x.attach(0, 0, MAC + 1, 1);
        x.attach(0, 1, MAC + 2, 1);
        x.attach(0, 2, MAC + 3, 1);
        x.attach(1, 0, MAC + 4, 2);
        x.attach(1, 1, MAC + 5, 2);
        x.attach(2, 0, MAC + 6, 3);
        x.tick(1);
        x.hurry(50);
        x.tick(2);
        x.raise(2, false);
        x.hurry(50);
        x.echo(2, R, 7, 0);
        String told = "";
        for (int i = 0; i < 150 && told.isEmpty(); i++) {
            x.hurry(1);
            for (int k = 0; k < x.frames(); k++) {
                boolean control = x.bytes(k, 20) >>> 56 == 58;
                told = control && x.bytes(k, 54) >>> 56 == 3 ? plain(x, k, 56) : told;
            }
        }
        due("out of time", told, header(MAC + 6, MAC + 1, 56, 58, 64) + address(P, 1) + address(P, 3)
            + "0300....00000000" + "6000000000083A01" + address(P, 3) + address(R, 7) + told.substring(told.length() - 16));
        x.hurry(9);
        due("counted", x.count(2, 3), 1);
    }

    private static void raiseWithoutRoom() {
        says("13 raise");
        Net x = new Net();
        x.node(true);
        x.link(P, 1500);
        x.attach(0, 0, MAC + 1, 1);
        x.raise(0, false);
        x.tick(12);
        due("gone", x.routes(0), 0);
        for (int i = 0; i < 56; i++) {
            x.own(0, Q + i, 64);
        }
        taken(x, "no room", x.raise(0, true), 0);
        due("routes", x.routes(0), 56);
        taken(x, "no route", x.raise(0, false), 0);
    }

    private static void waitingIsReleased() {
        says("3 NOTED");
        Net x = settledLan(1500);
        x.echo(0, Q, 1, 0);
        x.tick(8);
        due("entry gone", x.face(0, 3), 0);
        x.echo(0, LOCAL, EUI + 2, 0);
        dueEntry(x, 0, 0, LOCAL, EUI + 2, 0, 0, 12, 1);
        x.deliver(find(x, 134));
        dueEntry(x, 0, 0, LOCAL, EUI + 2, MAC + 2, 3, 16, 0);
        due("none waits", x.face(0, 4), 0);
        due("it flies", find(x, 128) >= 0 ? 1 : 0, 1);
    }

    /** A TELL that nobody asked for comes while a PACKET waits for that ADDRESS. */
    private static void tellUnasked() {
        says("3 TELL");
        Net x = lan(1500);
        x.node(false);
        x.tick(1);
        x.hurry(9);
        x.attach(3, 0, MAC + 9, 0x22);
        x.tick(9);
        x.hurry(9);
        x.tick(1);
        x.echo(0, P, 0x22, 0);
        dueEntry(x, 0, 1, P, 0x22, 0, 0, 12, 1);
        for (int k = x.frames() - 1; k >= 0; k--) {
            if (k != find(x, 134)) {
                x.drop(k);
            }
        }
        x.deliver(0);
        due("the new host is trying", x.face(3, 2), 1);
        due("asks", x.frames(), 1);
        x.deliver(0);
        due("the old one tells all", x.frames(), 1);
        x.deliver(0);
        due("double", x.face(3, 2), 3);
        dueEntry(x, 0, 1, P, 0x22, MAC + 3, 3, 16, 0);
        due("what waited flies", find(x, 128), 0);
    }

    private static void partsInTurn() {
        says("6 FRAGMENTS");
        Net x = settledLan(1280);
        x.echo(0, P, 0x22, 0);
        x.hurry(9);
        x.echo(0, P, 0x22, 1300);
        x.deliver(0);
        x.drop(0);
        x.tick(2);
        x.echo(0, P, 0x22, 1300);
        x.deliver(0);
        x.tick(1);
        x.echo(0, P, 0x22, 1300);
        x.deliver(1);
        x.drop(1);
        due("three", x.count(2, 6), 3);
        x.deliver(0);
        due("the second is whole", x.count(2, 6), 2);
        x.hurry(9);
        due("and replied to", x.count(0, 1), 2);
        x.tick(3);
        x.hurry(50);
        x.tick(3);
        x.hurry(50);
        due("at 12", x.count(2, 6), 2);
        x.tick(1);
        due("at 13", x.count(2, 6), 1);
        x.hurry(50);
        x.tick(2);
        due("at 15", x.count(2, 6), 1);
        x.tick(1);
        due("at 16", x.count(2, 6), 0);
        x.hurry(50);
        due("told of both", x.count(0, 3), 2);
    }

    private static void oldAnswer() {
        says("7 ANSWER");
        Net x = settledLan(1500);
        x.message(0, 2, 1, 1);
        x.message(0, 2, 2, 2);
        x.message(2, 0, 3, 3);
        x.tick(1);
        x.hurry(2);
        for (int i = 0; i < 20 && !hex(x, x.frames() - 1).startsWith("0220", 2 * 54); i++) {
            x.hurry(1);
        }
        int answer = x.frames() - 1;
        x.twice(answer);
        x.deliver(answer);
        due("first", x.sent(0, 2, 1), 1);
        x.tick(1);
        int old = -1;
        for (int k = 0; k < x.frames(); k++) {
            old = hex(x, k).startsWith("0220", 2 * 54) ? k : old;
        }
        x.deliver(old);
        due("an old answer answers nothing", x.sent(0, 2, 1), 1);
        x.hurry(50);
        x.tick(1);
        x.hurry(50);
        due("all answered", x.sent(0, 2, 1), 2);
        due("back, too", x.heard(2, 0), 1);
        due("back, too", x.sent(2, 0, 1), 1);
    }

    private static void manyMtus() {
        says("26 mtu");
        Net x = twoLinks(1500, 1280);
        for (int i = 0; i < 14; i++) {
            x.echo(0, Q, 0x100 + i, 1300);
            x.hurry(50);
            due("of tick " + (3 + i), x.mtu(0, Q, 0x100 + i), 1280);
            due("the twelfth before it", x.mtu(0, Q, 0x100 + i - 12), 0);
            due("the eleventh before it", x.mtu(0, Q, 0x100 + i - 11), i >= 11 ? 1280 : 0);
            x.tick(1);
        }
        x.tick(40);
        x.tick(7);
        due("now", x.world(0), 64);
        due("of tick 5", x.mtu(0, Q, 0x102), 1280);
        x.tick(1);
        due("of tick 5", x.mtu(0, Q, 0x102), 0);
        due("of tick 6", x.mtu(0, Q, 0x103), 1280);
        due("of tick 16", x.mtu(0, Q, 0x10D), 1280);
        x.tick(11);
        due("of tick 16", x.mtu(0, Q, 0x10D), 0);
        Net y = twoLinks(1500, 1280);
        y.echo(0, Q, 0x100, 1300);
        y.echo(0, Q, 0x100, 1300);
        y.hurry(4);
        due("two TOO BIG", y.frames(), 2);
        y.hurry(1);
        due("known", y.mtu(0, Q, 0x100), 1280);
        y.tick(1);
        y.hurry(50);
        due("both came", y.count(0, 4), 2);
        y.tick(40);
        y.tick(18);
        due("as long as the first said", y.mtu(0, Q, 0x100), 1280);
        y.tick(1);
        due("and no longer", y.mtu(0, Q, 0x100), 0);
        Net z = twoLinks(1500, 1280);
        for (int i = 0; i < 12; i++) {
            z.echo(0, Q, 0x100 + i, 1300);
            z.hurry(50);
        }
        z.echo(0, Q, 0x200, 1300);
        z.hurry(50);
        due("the first of such went", z.mtu(0, Q, 0x100), 0);
        due("the second stayed", z.mtu(0, Q, 0x101), 1280);
    }

    public static void main(String[] args) {
        newObject();
        nodes();
        links();
        attachments();
        ownPrefixes();
        messages();
        echoes();
        ticks();
        deliveries();
        copies();
        hurries();
        raises();
        frameQueries();
        faceQueries();
        entryQueries();
        routeQueries();
        routesTravel();
        loop();
        talks();
        tooBig();
        counts();
        worlds();
        doubles();
        outOfTimeFrame();
        raiseWithoutRoom();
        waitingIsReleased();
        tellUnasked();
        partsInTurn();
        oldAnswer();
        manyMtus();
        end();
    }
}
