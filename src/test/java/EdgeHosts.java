/** Edges of the document's part 4: ROUTERS that a HOST knows, ADDRESSES, sending, forwarding, and what is told of. */
public final class EdgeHosts extends Checks {
    // ---- ADVERT at a HOST

    /** ROUTERS 0 .. count - 1 and HOST count with ID 99, at tick 9, nothing in flight. */
    private static Net routersAndHost(int count) {
        Net x = routers(count);
        x.node(false);
        x.attach(count, 0, MAC + 0x99, 0x99);
        quietTicks(x, 9);
        return x;
    }

    /** A tick in which the ADVERTS alone arrive. */
    private static void advertTick(Net x) {
        x.tick(1);
        keepType(x, ADVERT);
        x.hurry(20);
        dropAll(x);
    }

    private static void fifthRouter() {
        says("that ROUTER (4 at most, in the order in which they came; a fifth is nothing)");
        Net x = routersAndHost(5);
        for (int i = 0; i < 4; i++) {
            advertTick(x);
            due("ROUTERS known", x.count(5, 7), i + 1);
        }
        due("NOW", x.world(0), 13);
        advertTick(x);
        due("a fifth is nothing", x.count(5, 7), 4);
        Net y = x.fork();
        y.echo(5, Q, 1, 0);
        due("the first is used", y.bytes(0, 0) >>> 16, MAC + 1);
        quietTicks(x, 52);
        due("the fourth is there till 53", x.count(5, 7), 1);
        x.echo(5, Q, 1, 0);
        due("and used", x.bytes(0, 0) >>> 16, MAC + 4);
        quietTicks(x, 53);
        due("nobody is there then", x.count(5, 7), 0);
    }

    private static void fifthComesLater() {
        says("4 at most, in the order in which they came; is there UNTIL NOW + 40");
        Net x = routersAndHost(5);
        for (int i = 0; i < 4; i++) {
            advertTick(x);
        }
        quietTicks(x, 49);
        due("NOW + 39", x.count(5, 7), 4);
        quietTicks(x, 50);
        due("the first goes at NOW + 40", x.count(5, 7), 3);
        Net y = x.fork();
        y.echo(5, Q, 1, 0);
        due("the second is the first now", y.bytes(0, 0) >>> 16, MAC + 2);
        quietTicks(x, 51);
        due("the second", x.count(5, 7), 2);
        quietTicks(x, 53);
        due("the fourth", x.count(5, 7), 0);
        due("ON LINK", x.count(5, 8), 0);
        advertTick(x);
        due("the fifth now is the first", x.count(5, 7), 1);
        quietTicks(x, 59);
        advertTick(x);
        due("two", x.count(5, 7), 2);
        x.echo(5, Q, 1, 0);
        due("the fifth is used", x.bytes(0, 0) >>> 16, MAC + 5);
    }

    private static void renewedRouter() {
        says("that ROUTER is there UNTIL NOW + 40; the PREFIX is ON LINK UNTIL NOW + 40");
        Net x = routersAndHost(1);
        advertTick(x);
        due("ROUTERS known", x.count(1, 7), 1);
        Net y = x.fork();
        quietTicks(x, 49);
        due("NOW + 39", x.count(1, 7) + x.count(1, 8), 2);
        quietTicks(x, 50);
        due("NOW + 40", x.count(1, 7) + x.count(1, 8), 0);
        quietTicks(y, 39);
        advertTick(y);
        due("one that is known is not another one", y.count(1, 7), 1);
        quietTicks(y, 79);
        due("NOW + 39 from the second", y.count(1, 7) + y.count(1, 8), 2);
        quietTicks(y, 80);
        due("NOW + 40 from the second", y.count(1, 7) + y.count(1, 8), 0);
    }

    /** ROUTERS go by their own UNTIL, ON LINK by the latest ADVERT. */
    private static void onLinkByLatest() {
        says("its ROUTERS and ON LINK (gone at UNTIL)");
        Net x = routersAndHost(2);
        advertTick(x);
        advertTick(x);
        quietTicks(x, 50);
        due("the first is gone", x.count(2, 7), 1);
        due("ON LINK", x.count(2, 8), 1);
        quietTicks(x, 51);
        due("all gone", x.count(2, 7) + x.count(2, 8), 0);
    }

    private static void advertAtRouter() {
        says("ADVERT at a HOST");
        Net x = routers(2);
        quietTicks(x, 9);
        x.tick(1);
        keepType(x, ADVERT);
        x.hurry(1);
        due("a ROUTER knows no ROUTER", x.count(1, 7), 0);
        due("nothing is ON LINK", x.count(1, 8), 0);
        due("nothing is NOTED", x.face(1, 3), 0);
    }

    private static void trying() {
        says("an ABSENT GLOBAL ADDRESS is TRYING, UNTIL NOW + 2; TRYING at UNTIL: ASSIGNED");
        Net x = lan(1500);
        due("ABSENT at first", x.face(0, 2), 0);
        x.tick(1);
        x.twice(0);
        x.twice(0);
        x.deliver(0);
        due("TRYING", x.face(0, 2), 1);
        due("two ASKS", countOf(x, ASK), 2);
        x.tick(1);
        due("NOW + 1", x.face(0, 2), 1);
        x.deliver(find(x, ADVERT));
        due("no ASK for one that is TRYING", countOf(x, ASK), 2);
        x.tick(1);
        due("NOW + 2", x.face(0, 2), 2);
        x.deliver(find(x, ADVERT));
        due("no ASK for one that is ASSIGNED", countOf(x, ASK), 2);
        due("ASSIGNED", x.face(0, 2), 2);
        x.raise(0, false);
        x.tick(40);
        x.tick(40);
        due("for ever", x.face(0, 2), 2);
    }

    private static void ownTries() {
        says("GLOBAL and TRYING, from ADDRESS 0: it is DOUBLE from now on");
        Net x = new Net();
        x.node(false);
        x.node(true);
        x.node(false);
        x.link(P, 1500);
        x.attach(0, 0, MAC + 1, 7);
        x.attach(1, 0, MAC + 2, 1);
        x.attach(2, 0, MAC + 3, 7);
        x.tick(1);
        x.deliver(0);
        keepType(x, ASK);
        Net y = x.fork();
        x.tick(1);
        x.hurry(9);
        due("a tick ahead of UNTIL both are DOUBLE", x.face(0, 2) + x.face(2, 2), 6);
        y.tick(2);
        keepType(y, ASK);
        y.hurry(2);
        due("at UNTIL both are ASSIGNED", y.face(0, 2) + y.face(2, 2), 4);
        due("and tell all", countOf(y, TELL), 2);
    }

    // ---- sending

    private static void withoutAddress() {
        says("of a HOST its GLOBAL one, if ASSIGNED; without one it is LOST");
        Net x = lan(1500);
        x.echo(0, P, 0x22, 0);
        due("ABSENT", x.world(5), 1);
        x.tick(1);
        x.hurry(9);
        x.echo(0, P, 0x22, 0);
        due("TRYING", x.world(5), 2);
        x.echo(0, P, 0x11, 0);
        due("TRYING, to itself", x.world(5), 3);
        x.echo(0, LOCAL, EUI + 2, 0);
        due("TRYING, to LOCAL HIGH", x.world(5), 4);
        x.echo(0, LOCAL, EUI + 1, 0);
        due("TRYING, to its own LOCAL", x.world(5), 5);
        due("no frames", x.frames(), 0);
        x.tick(2);
        x.echo(0, P, 0x22, 0);
        due("ASSIGNED", x.world(5), 5);
        Net r = new Net();
        r.node(true);
        r.echo(0, P, 1, 0);
        due("a ROUTER without INTERFACE", r.world(5), 1);
        r.echo(0, LOCAL, 1, 0);
        due("a ROUTER without INTERFACE", r.world(5), 2);
    }

    private static void toItself() {
        says("To an ADDRESS of its own: it comes to this NODE at once, whole");
        Net x = twoLinks(1280, 1280);
        long[][] own = {{P, 1}, {Q, 1}, {LOCAL, EUI + 2}, {LOCAL, EUI + 4}};
        for (int i = 0; i < 4; i++) {
            x.echo(1, own[i][0], own[i][1], 3000);
            due("REPLY at once", x.count(1, 1), i + 1);
        }
        x.echo(0, P, 0x11, 3000);
        due("REPLY at once", x.count(0, 1), 1);
        due("no frames", x.frames(), 0);
        due("nothing to put together", x.count(1, 6), 0);
        due("LOST", x.world(5), 0);
        x.raise(0, false);
        x.echo(1, P, 1, 0);
        due("also on a LINK that is cut", x.count(1, 1), 5);
    }

    private static void toLocal() {
        says("To LOCAL HIGH: to this neighbour at its first INTERFACE");
        Net x = twoLinks(1500, 1500);
        x.echo(1, LOCAL, EUI + 3, 0);
        due("ASK on LINK 0", x.frame(0, 0), 0);
        due("not at the second", x.face(2, 3), 0);
        x.hurry(9);
        due("HOST 2 is on the other LINK", x.count(1, 1), 0);
        x.echo(1, LOCAL, EUI + 1, 0);
        x.hurry(9);
        due("HOST 0 is here", x.count(1, 1), 1);
        x.echo(0, LOCAL + 1, EUI + 2, 0);
        due("another HIGH goes by the ROUTER", x.bytes(x.frames() - 1, 0) >>> 16, MAC + 2);
    }

    private static void onLinkOrNot() {
        says("a HOST: to the ADDRESS itself, if its HIGH is ON LINK; else to the first of its ROUTERS; without any it is LOST");
        Net x = settledLan(1500);
        x.echo(0, P, 0x77, 0);
        dueEntry(x, 0, 1, P, 0x77, 0, OPEN, 4, 1);
        dropAll(x);
        x.echo(0, P + 1, 0x77, 0);
        due("HIGH beside it: to the ROUTER", x.bytes(0, 0) >>> 16, MAC + 2);
        due("to that ADDRESS", x.bytes(0, 38), P + 1);
        dropAll(x);
        quietTicks(x, 11);
        due("the ROUTER is gone", x.count(0, 7), 0);
        due("ON LINK", x.count(0, 8), 1);
        x.echo(0, P + 1, 0x77, 0);
        due("without any LOST", x.world(5), 1);
        x.echo(0, P, 0x22, 0);
        due("ON LINK", x.frames(), 1);
        dropAll(x);
        quietTicks(x, 40);
        due("ON LINK at 40", x.count(0, 8), 1);
        quietTicks(x, 41);
        due("ON LINK no more at 41", x.count(0, 8), 0);
        x.echo(0, P, 0x22, 0);
        due("LOST", x.world(5), 2);
    }

    private static void routerWithoutRoute() {
        says("A ROUTER: by the ROUTE, as below (HOPS stay; without one it is LOST)");
        Net x = twoLinks(1500, 1500);
        x.echo(1, R, 1, 0);
        due("LOST", x.world(5), 1);
        due("nobody is told", x.count(1, 2), 0);
        x.echo(1, Q, 0x22, 0);
        x.hurry(2);
        due("HOPS stay", byteOf(x, 0, 21), 64);
        x.hurry(9);
        due("REPLY", x.count(1, 1), 1);
        due("it comes from the first INTERFACE's ADDRESS", x.count(1, 5), 0);
        x.raise(1, false);
        x.echo(1, Q, 0x22, 0);
        due("METRIC 16: LOST", x.world(5), 2);
        x.own(1, R, 48);
        x.echo(1, R, 1, 3000);
        due("an OWN one: it comes to this NODE", x.count(1, 1), 2);
    }

    private static void cutAtMtu() {
        says("One longer than the MTU (the LINK's on which it goes) is CUT");
        int[] mtus = {1280, 1281, 1499, 1500};
        for (int mtu : mtus) {
            Net x = settledLan(mtu);
            x.echo(0, Q, 1, mtu - 48);
            due("as long as the MTU " + mtu, x.frames(), 1);
            due("bytes", x.frame(0, 3), 14 + mtu);
            due("whole", typeOf(x, 0), ECHO);
            x.echo(0, Q, 1, mtu - 47);
            due("one byte more", x.frames(), 3);
            due("cut", typeOf(x, 1), FRAGMENT);
        }
    }

    // ---- forwarding

    private static void longestRoute() {
        says("the ROUTE is that with METRIC below 16 and the greatest LENGTH whose PREFIX the ADDRESS has");
        Net x = twoLinks(1500, 1500);
        x.own(1, 0x2000000000000000L, 8);
        x.own(1, Q, 63);
        due("LINK's", x.way(1, Q), 3);
        due("63", x.way(1, Q + 1), 2);
        due("8", x.way(1, Q + 2), 0);
        due("8", x.way(1, 0x20FFFFFFFFFFFFFFL), 0);
        taken(x, "none", x.way(1, 0x2100000000000000L), -1);
        taken(x, "none", x.way(1, 0x1FFFFFFFFFFFFFFFL), -1);
        x.raise(1, false);
        due("METRIC 16 is none: the next", x.way(1, Q), 2);
        x.echo(0, Q, 0x22, 0);
        x.hurry(9);
        due("the OWN one answers", x.count(0, 1), 1);
    }

    private static void noRoute() {
        says("None: UNREACHABLE 0");
        Net x = twoLinks(1500, 1500);
        x.echo(0, P, 1, 0);
        x.hurry(9);
        x.echo(0, R, 1, 0);
        x.hurry(1);
        due("UNREACHABLE 0", x.bytes(0, 54) >>> 48, 0x0100);
        x.hurry(1);
        due("counted", x.count(0, 2), 1);
        x.raise(1, false);
        x.echo(0, Q, 0x22, 0);
        x.hurry(1);
        due("METRIC 16: UNREACHABLE 0", x.bytes(0, 54) >>> 48, 0x0100);
        x.hurry(1);
        due("counted", x.count(0, 2), 2);
        due("forwarded", x.count(1, 5), 0);
    }

    private static void fromFirstInterface() {
        says("from, of a ROUTER, the GLOBAL ADDRESS of its first INTERFACE");
        Net x = twoLinks(1500, 1500);
        x.echo(2, Q, 1, 0);
        x.hurry(9);
        due("REPLY of the other ADDRESS", x.count(2, 1), 1);
        x.echo(2, Q, 1, 0);
        x.hurry(1);
        due("REPLY comes from HIGH", x.bytes(0, 22), P);
        due("LOW", x.bytes(0, 30), 1);
        x.hurry(1);
        x.echo(2, R, 1, 0);
        x.hurry(1);
        due("UNREACHABLE comes from HIGH", x.bytes(0, 22), P);
        due("to", x.bytes(0, 46), 0x22);
    }

    private static void forwardAtMtu() {
        says("Longer than the MTU of the LINK: TOO BIG with that");
        Net x = twoLinks(1500, 1400);
        x.echo(0, P, 1, 0);
        x.echo(0, Q, 0x22, 0);
        x.hurry(20);
        due("forwarded", x.count(1, 5), 2);
        x.echo(0, Q, 0x22, 1352);
        x.hurry(1);
        due("as long as the MTU", x.frame(0, 3), 14 + 1400);
        due("HOPS are 1 less", byteOf(x, 0, 21), 63);
        due("forwarded", x.count(1, 5), 3);
        dropAll(x);
        x.echo(0, Q, 0x22, 1353);
        x.hurry(1);
        due("one byte more: TOO BIG", x.bytes(0, 54) >>> 48, 0x0200);
        due("with that", x.bytes(0, 58) >>> 32, 1400);
        due("forwarded", x.count(1, 5), 3);
    }

    /** ROUTERS 0 and 1 send what is for R to one another; R / 48 was ROUTER 2's. At tick 20. */
    private static Net loop() {
        Net x = new Net();
        for (int i = 0; i < 3; i++) {
            x.node(true);
        }
        x.link(P, 1500);
        x.link(Q, 1500);
        x.link(S, 1500);
        x.attach(0, 0, MAC + 1, 1);
        x.attach(0, 1, MAC + 2, 1);
        x.attach(0, 2, MAC + 3, 1);
        x.attach(1, 0, MAC + 4, 2);
        x.attach(1, 1, MAC + 5, 2);
        x.attach(2, 2, MAC + 6, 2);
        x.own(2, R, 48);
        x.tick(1);
        x.hurry(50);
        x.tick(1);
        x.hurry(50);
        x.raise(2, false);
        quietTicks(x, 5);
        x.tick(1);
        x.hurry(50);
        quietTicks(x, 18);
        x.tick(1);
        x.drop(0);
        due("what ROUTER 1 says at LINK 1", x.frame(0, 1), 4);
        x.tick(1);
        due("ROUTER 0 has no way", x.way(0, R), -1);
        x.deliver(0);
        due("ROUTER 0 goes by LINK 1", x.route(0, x.way(0, R), 3), 1);
        due("ROUTER 1 goes by LINK 0", x.route(1, x.way(1, R), 3), 3);
        dropAll(x);
        return x;
    }

    /** Single frames arrive till an ECHO with this many HOPS flies. */
    private static void bounceTo(Net x, int hops) {
        for (int i = 0; i < 150; i++) {
            int k = find(x, ECHO);
            if (k >= 0 && byteOf(x, k, 21) == hops) {
                return;
            }
            x.hurry(1);
        }
        due("an ECHO with HOPS " + hops, 0, 1);
    }

    private static void hopsEnd() {
        says("HOPS 1 or less: OUT OF TIME 0");
        Net x = loop();
        x.echo(0, R, 7, 0);
        bounceTo(x, 2);
        due("to ROUTER 1", x.bytes(0, 0) >>> 16, MAC + 5);
        int forwarded = x.count(1, 5);
        x.hurry(1);
        due("2 go on as 1", byteOf(x, 0, 21), 1);
        due("forwarded", x.count(1, 5), forwarded + 1);
        forwarded = x.count(0, 5);
        x.hurry(1);
        due("1 goes no further", x.frames(), 0);
        due("forwarded", x.count(0, 5), forwarded);
        due("OUT OF TIME", x.count(0, 3), 1);
    }

    private static void ownWithOneHop() {
        says("From nobody, and no LINK's of it: an OWN one: it comes to this NODE. HOPS 1 or less: OUT OF TIME 0");
        Net x = loop();
        x.echo(0, R, 7, 0);
        bounceTo(x, 1);
        taken(x, "own", x.own(0, R, 64), 4);
        x.hurry(1);
        due("REPLY to itself", x.count(0, 1), 1);
        due("no OUT OF TIME", x.count(0, 3), 0);
    }

    private static void hopsAheadOfMtu() {
        says("HOPS 1 or less: OUT OF TIME 0. Longer than the MTU of the LINK: TOO BIG with that");
        Net x = loop();
        x.link(R, 1280);
        x.echo(0, R, 7, 1400 - 48);
        bounceTo(x, 1);
        taken(x, "ROUTER 0 is on a LINK that is too small", x.attach(0, 3, MAC + 7, 9), 6);
        x.hurry(1);
        due("OUT OF TIME", x.count(0, 3), 1);
        due("no TOO BIG", x.count(0, 4), 0);
    }

    /** ROUTER 1 gives its ROUTE up at tick 24, and says so to ROUTER 0. */
    private static void noRouteWithOneHop() {
        says("None: UNREACHABLE 0 .. HOPS 1 or less: OUT OF TIME 0");
        Net x = loop();
        x.echo(0, R, 7, 0);
        bounceTo(x, 1);
        while (x.world(0) < 23) {
            x.tick(1);
            keepType(x, ECHO);
        }
        x.tick(1);
        x.deliver(findFrom(x, DATAGRAM, 4));
        due("ROUTER 0 has no way", x.way(0, R), -1);
        x.deliver(find(x, ECHO));
        due("UNREACHABLE", x.count(0, 2), 1);
        due("no OUT OF TIME", x.count(0, 3), 0);
    }

    // ---- what is told of

    private static void notAboutTrouble() {
        says("but not about UNREACHABLE, OUT OF TIME, TOO BIG");
        Net x = twoLinks(1500, 1500);
        x.echo(0, R, 1, 0);
        x.hurry(1);
        due("UNREACHABLE waits at the ROUTER", x.face(1, 4), 1);
        dropAll(x);
        quietTicks(x, 6);
        due("the ENTRY went", x.face(1, 3), 0);
        due("waiting", x.world(6), 0);
        due("the ROUTER is told nothing", x.count(1, 2), 0);
        due("nobody sent anything", x.frames(), 0);
        due("LOST", x.world(5), 0);
    }

    private static void firstFragmentAlone() {
        says("nor a FRAGMENT but the first");
        Net x = twoLinks(1500, 1280);
        x.echo(0, P, 1, 0);
        x.hurry(9);
        x.echo(0, Q, 0x22, 3000);
        due("parts", x.frames(), 3);
        x.hurry(3);
        due("TOO BIG about the first", countOf(x, TOO_BIG), 1);
        due("ASK for the third", countOf(x, ASK), 1);
        due("about offset 0, and more come", x.bytes(find(x, TOO_BIG), 14 + 48 + 40) >>> 32 & 0xFFFF, 1);
        Net y = twoLinks(1500, 1500);
        y.echo(0, P, 1, 0);
        y.hurry(9);
        y.echo(0, R, 1, 3000);
        y.hurry(3);
        due("UNREACHABLE 0 about the first", y.frames(), 1);
        dropAll(y);
        y.echo(0, Q, 0x77, 3000);
        y.hurry(3);
        due("three wait", y.face(2, 4), 3);
        quietTicks(y, 5);
        y.tick(1);
        due("UNREACHABLE 3 about the first", y.frames(), 1);
        due("UNREACHABLE 3", y.bytes(0, 54) >>> 48, 0x0103);
    }

    private static void quotes() {
        says("of the PACKET that it is about as many bytes as fit, 1232 at most");
        int[] sizes = {0, 1183, 1184, 1185, 1300};
        for (int size : sizes) {
            Net x = twoLinks(1500, 1500);
            x.echo(0, P, 1, 0);
            x.hurry(9);
            x.echo(0, R, 1, size);
            String about = packet(x, 0);
            x.hurry(1);
            String told = packet(x, 0);
            int quoted = Math.min(48 + size, 1232);
            due("bytes", told.length() / 2, 48 + quoted);
            due("all that fit", told.substring(2 * 48), about.substring(0, 2 * quoted));
        }
    }

    private static void replyIsToldOf() {
        says("UNREACHABLE, OUT OF TIME, TOO BIG go to who sent the PACKET");
        Net x = twoLinks(1500, 1500);
        x.echo(0, Q, 0x22, 0);
        x.hurry(3);
        due("the ECHO flies to HOST 2", typeOf(x, x.frames() - 1), ECHO);
        x.raise(0, false);
        x.hurry(9);
        due("HOST 2 is told that its REPLY has no way", x.count(2, 2), 1);
        due("HOST 0 is not", x.count(0, 2), 0);
    }

    public static void main(String[] args) {
        fifthRouter();
        fifthComesLater();
        renewedRouter();
        onLinkByLatest();
        advertAtRouter();
        trying();
        ownTries();
        withoutAddress();
        toItself();
        toLocal();
        onLinkOrNot();
        routerWithoutRoute();
        cutAtMtu();
        longestRoute();
        noRoute();
        fromFirstInterface();
        forwardAtMtu();
        hopsEnd();
        ownWithOneHop();
        hopsAheadOfMtu();
        noRouteWithOneHop();
        notAboutTrouble();
        firstFragmentAlone();
        quotes();
        replyIsToldOf();
        end();
    }
}
