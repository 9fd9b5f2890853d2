/** Edges of the document's part 5: ROUTES, their order and number, their METRICS and ticks, and what DATAGRAMS tell. */
public final class EdgeRoutes extends Checks {
    // ---- order and number

    private static void ordered() {
        says("ordered by PREFIXES as numbers without signs, then LENGTHS");
        Net x = new Net();
        x.node(true);
        long[][] told = {{0x3000000000000000L, 8}, {0x2000000000000000L, 64}, {0x3FFFFFFFFFFFFFFFL, 64},
            {0x2000000000000000L, 8}, {0x3000000000000000L, 9}, {0x2000000000000001L, 64}, {0x2000000000000000L, 63}};
        for (int i = 0; i < told.length; i++) {
            taken(x, "own", x.own(0, told[i][0], (int) told[i][1]), i + 1);
        }
        long[][] want = {{0x2000000000000000L, 8}, {0x2000000000000000L, 63}, {0x2000000000000000L, 64},
            {0x2000000000000001L, 64}, {0x3000000000000000L, 8}, {0x3000000000000000L, 9}, {0x3FFFFFFFFFFFFFFFL, 64}};
        for (int j = 0; j < want.length; j++) {
            dueRoute(x, 0, j, want[j][0], want[j][1], 1, -1, 0, 0);
        }
    }

    private static void madeBehindGone() {
        says("ordered by PREFIXES as numbers without signs, then LENGTHS");
        Net x = routers(1);
        x.link(Q, 1500);
        x.attach(0, 1, MAC + 9, 1);
        x.own(0, S, 64);
        x.raise(1, false);
        quietTicks(x, 12);
        due("the second of three went", x.routes(0), 2);
        taken(x, "own", x.own(0, S + 1, 64), 3);
        taken(x, "own", x.own(0, R, 64), 4);
        long[] prefixes = {P, R, S, S + 1};
        for (int j = 0; j < 4; j++) {
            dueRoute(x, 0, j, prefixes[j], 64, 1, -1, 0, 0);
        }
    }

    /** ROUTERS 0 and 1 on LINK P, with so many OWN PREFIXES each: those of 0 begin with 20, of 1 with 30. */
    private static Net owners(int first, int second) {
        Net x = routers(2);
        for (int i = 0; i < first; i++) {
            x.own(0, 0x2002000000000000L + i, 64);
        }
        for (int i = 0; i < second; i++) {
            x.own(1, 0x3000000000000000L + i, 64);
        }
        return x;
    }

    private static void fiftySeventh() {
        says("56 at most (one more is nothing)");
        Net x = owners(28, 27);
        x.tick(1);
        x.hurry(9);
        due("56 there", x.routes(0), 56);
        due("56 there", x.routes(1), 56);
        dueRoute(x, 0, 55, 0x300000000000001AL, 64, 2, 0, EUI + 2, 19);
        Net y = owners(28, 28);
        y.tick(1);
        y.hurry(9);
        due("the last one is nothing", y.routes(0), 56);
        dueRoute(y, 0, 55, 0x300000000000001AL, 64, 2, 0, EUI + 2, 19);
        taken(y, "no way", y.way(0, 0x300000000000001BL), -1);
        due("the last one told is nothing", y.routes(1), 56);
        dueRoute(y, 1, 55, 0x300000000000001BL, 64, 1, -1, 0, 0);
        taken(y, "no way", y.way(1, 0x200200000000001BL), -1);
        quietTicks(y, 6);
        y.tick(1);
        y.deliver(findFrom(y, DATAGRAM, 1));
        due("those that are there are told anew", y.route(0, 55, 5), 25);
        due("ROUTES", y.routes(0), 56);
    }

    private static void roomAgain() {
        says("56 at most (one more is nothing)");
        Net x = owners(28, 28);
        x.tick(1);
        x.hurry(9);
        due("ROUTES", x.routes(0), 56);
        quietTicks(x, 31);
        due("what was learnt went", x.routes(0), 29);
        quietTicks(x, 36);
        x.tick(1);
        x.deliver(findFrom(x, DATAGRAM, 1));
        due("learnt anew", x.routes(0), 56);
    }

    private static void datagramOfAll() {
        says("2 bytes: how many bytes with these 8; then of each ROUTE");
        Net x = owners(55, 0);
        x.tick(1);
        int k = findFrom(x, DATAGRAM, 0);
        due("bytes", x.frame(k, 3), 14 + 40 + 12 + 20 * 56);
        due("behind the first 40", x.bytes(k, 18) >>> 48, 12 + 20 * 56);
        due("with these 8", x.bytes(k, 58) >>> 48, 12 + 20 * 56);
        plain(x, k, 60);
        x.hurry(9);
        due("all but P are learnt", x.routes(1), 56);
    }

    // ---- LINKS that are cut

    private static void cutLink() {
        says("When a LINK is cut its ROUTE has METRIC 16, UNTIL NOW + 12; 16: it goes");
        Net x = twoLinks(1500, 1500);
        taken(x, "cut", x.raise(1, false), 1);
        dueRoute(x, 1, 1, Q, 64, 16, -1, 0, 15);
        quietTicks(x, 14);
        due("NOW + 11", x.routes(1), 2);
        dueRoute(x, 1, 1, Q, 64, 16, -1, 0, 15);
        quietTicks(x, 15);
        due("NOW + 12", x.routes(1), 1);
        dueRoute(x, 1, 0, P, 64, 1, -1, 0, 0);
        taken(x, "up", x.raise(1, true), 1);
        dueRoute(x, 1, 1, Q, 64, 1, -1, 0, 0);
        quietTicks(x, 60);
        due("from nobody with METRIC 1: never", x.routes(1), 2);
    }

    private static void upInTime() {
        says("when it is up again it is as told at first; CHANGED each time");
        Net x = twoLinks(1500, 1500);
        x.raise(1, false);
        quietTicks(x, 14);
        taken(x, "up", x.raise(1, true), 1);
        dueRoute(x, 1, 1, Q, 64, 1, -1, 0, 0);
        x.tick(1);
        due("told at once on both LINKS", countOf(x, DATAGRAM), 2);
        due("CHANGED ones alone", hex(x, 0).substring(2 * 66), of(Q, 8) + ZERO8 + "00004001");
        quietTicks(x, 60);
        due("it stays", x.routes(1), 2);
        taken(x, "cut", x.raise(1, false), 1);
        x.tick(1);
        keepType(x, DATAGRAM);
        due("told on LINK 0, for LINK 1 is cut", x.frames(), 1);
        due("LINK", x.frame(0, 0), 0);
        due("METRIC 16", hex(x, 0).endsWith(of(Q, 8) + ZERO8 + "00004010") ? 1 : 0, 1);
    }

    private static void attachedToCut() {
        says("(or is, as the INTERFACE is told)");
        Net x = new Net();
        x.node(true);
        x.node(true);
        x.link(P, 1500);
        x.link(Q, 1500);
        x.attach(0, 0, MAC + 1, 1);
        x.raise(1, false);
        x.attach(0, 1, MAC + 2, 1);
        dueRoute(x, 0, 1, Q, 64, 16, -1, 0, 12);
        x.attach(1, 0, MAC + 3, 2);
        x.own(1, Q, 64);
        x.attach(1, 1, MAC + 4, 2);
        dueRoute(x, 1, 1, Q, 64, 16, -1, 0, 12);
        taken(x, "up", x.raise(1, true), 2);
        dueRoute(x, 0, 1, Q, 64, 1, -1, 0, 0);
        dueRoute(x, 1, 1, Q, 64, 1, -1, 0, 0);
    }

    private static void raiseCounts() {
        says("how many ROUTES became CHANGED by it");
        Net x = routers(5);
        x.node(false);
        x.attach(5, 0, MAC + 0x55, 0x55);
        x.node(true);
        x.tick(1);
        taken(x, "of five ROUTERS, not the HOST, not the one beside", x.raise(0, false), 5);
        x.tick(1);
        taken(x, "up", x.raise(0, true), 5);
        x.link(Q, 1500);
        taken(x, "a LINK without INTERFACES", x.raise(1, false), 0);
        taken(x, "a LINK without INTERFACES", x.raise(1, true), 0);
    }

    /** ROUTER 0's LINK Q comes up with 56 ROUTES; later Q is learnt from ROUTER 1, to which it is an OWN one. */
    private static void cutWithoutOwnRoute() {
        says("its ROUTE, if it is from nobody with METRIC 1");
        Net x = routers(2);
        x.link(Q, 1500);
        x.raise(1, false);
        x.attach(0, 1, MAC + 9, 1);
        quietTicks(x, 12);
        due("Q's ROUTE went", x.routes(0), 1);
        for (int i = 0; i < 54; i++) {
            x.own(0, S + i, 64);
        }
        x.own(1, R, 64);
        x.tick(1);
        x.deliver(findFrom(x, DATAGRAM, 1));
        dropAll(x);
        due("56", x.routes(0), 56);
        taken(x, "no room for Q", x.raise(1, true), 0);
        quietTicks(x, 13 + 18 + 12);
        due("R went", x.routes(0), 55);
        x.own(1, Q, 64);
        x.tick(1);
        x.deliver(findFrom(x, DATAGRAM, 1));
        dropAll(x);
        dueRoute(x, 0, 1, Q, 64, 2, 0, EUI + 2, 62);
        taken(x, "cut", x.raise(1, false), 0);
        dueRoute(x, 0, 1, Q, 64, 2, 0, EUI + 2, 62);
        x.tick(1);
        taken(x, "up: it is as told at first", x.raise(1, true), 1);
        dueRoute(x, 0, 1, Q, 64, 1, -1, 0, 0);
    }

    private static void learntThenTold() {
        says("made (or made so of one that there is) as the INTERFACE or the OWN PREFIX is told, CHANGED");
        Net x = routers(2);
        x.link(Q, 1500);
        x.attach(1, 1, MAC + 9, 1);
        x.tick(1);
        x.hurry(9);
        dueRoute(x, 0, 1, Q, 64, 2, 0, EUI + 2, 19);
        x.tick(1);
        dropAll(x);
        x.attach(0, 1, MAC + 8, 2);
        dueRoute(x, 0, 1, Q, 64, 1, -1, 0, 0);
        due("ROUTES", x.routes(0), 2);
        x.tick(1);
        due("told on both", countOf(x, DATAGRAM), 2);
        due("CHANGED ones alone", hex(x, 0).substring(2 * 66), of(Q, 8) + ZERO8 + "00004001");
    }

    // ---- learning

    /** ROUTERS 0, 1, 2 on LINK P; PREFIX R / 48 is ROUTER 1's. */
    private static Net three() {
        Net x = routers(3);
        x.own(1, R, 48);
        x.tick(1);
        return x;
    }

    private static void learn() {
        says("there is none: one is made, if m is below 16, UNTIL NOW + 18, CHANGED");
        Net x = three();
        x.tick(1);
        x.deliver(findFrom(x, DATAGRAM, 1));
        dueRoute(x, 0, 1, R, 48, 2, 0, EUI + 2, 20);
        dueRoute(x, 2, 1, R, 48, 2, 2, EUI + 2, 20);
        dropAll(x);
        x.tick(1);
        due("both tell at once", countOf(x, DATAGRAM), 2);
        due("with METRIC 16, for the neighbour is on that LINK", hex(x, 0).substring(2 * 66),
            of(R, 8) + ZERO8 + "00003010");
        dropAll(x);
        x.tick(1);
        due("none is CHANGED then", countOf(x, DATAGRAM), 0);
    }

    private static void learnEnds() {
        says("At UNTIL: METRIC below 16: 16, UNTIL NOW + 12, CHANGED; 16: it goes");
        Net x = three();
        x.deliver(findFrom(x, DATAGRAM, 1));
        dueRoute(x, 0, 1, R, 48, 2, 0, EUI + 2, 19);
        quietTicks(x, 18);
        dueRoute(x, 0, 1, R, 48, 2, 0, EUI + 2, 19);
        due("a way", x.way(0, R), 1);
        x.tick(1);
        dueRoute(x, 0, 1, R, 48, 16, 0, EUI + 2, 31);
        taken(x, "no way", x.way(0, R), -1);
        due("told in the same tick", findFrom(x, DATAGRAM, 0) >= 0 ? 1 : 0, 1);
        dropAll(x);
        quietTicks(x, 30);
        dueRoute(x, 0, 1, R, 48, 16, 0, EUI + 2, 31);
        quietTicks(x, 31);
        due("it went", x.routes(0), 1);
        due("the OWN one is there", x.routes(1), 2);
    }

    private static void toldAgain() {
        says("One from this neighbour: METRIC m; CHANGED if it was another one; UNTIL NOW + 18, if m is below 16");
        Net x = three();
        x.deliver(findFrom(x, DATAGRAM, 1));
        quietTicks(x, 6);
        x.tick(1);
        x.deliver(findFrom(x, DATAGRAM, 1));
        dueRoute(x, 0, 1, R, 48, 2, 0, EUI + 2, 25);
        dropAll(x);
        x.tick(1);
        due("the same METRIC is not CHANGED", findFrom(x, DATAGRAM, 0), -1);
    }

    /** R is ROUTER 1's LINK, which is cut and up again; ROUTER 0 hears of it. */
    private static void becomesSixteen() {
        says("UNTIL NOW + 18, if m is below 16, NOW + 12, if it became 16 now");
        Net x = routers(2);
        x.link(R, 1500);
        x.attach(1, 1, MAC + 9, 1);
        x.tick(1);
        x.hurry(9);
        dueRoute(x, 0, 1, R, 64, 2, 0, EUI + 2, 19);
        x.raise(1, false);
        quietTicks(x, 3);
        x.raise(1, true);
        x.raise(1, false);
        x.tick(1);
        x.twice(findFrom(x, DATAGRAM, 1));
        x.twice(findFrom(x, DATAGRAM, 1));
        x.deliver(findFrom(x, DATAGRAM, 1));
        dueRoute(x, 0, 1, R, 64, 16, 0, EUI + 2, 16);
        x.tick(1);
        due("CHANGED", findFrom(x, DATAGRAM, 0) >= 0 ? 1 : 0, 1);
        x.deliver(findFrom(x, DATAGRAM, 1));
        dueRoute(x, 0, 1, R, 64, 16, 0, EUI + 2, 16);
        dropType(x, ADVERT);
        Net y = x.fork();
        dropAll(x);
        quietTicks(x, 15);
        due("there", x.routes(0), 2);
        quietTicks(x, 16);
        due("gone", x.routes(0), 1);
        dropAll(y);
        y.tick(1);
        dropAll(y);
        y.raise(1, true);
        y.tick(1);
        y.deliver(findFrom(y, DATAGRAM, 1));
        dueRoute(y, 0, 1, R, 64, 2, 0, EUI + 2, 25);
        dropAll(y);
        y.tick(1);
        due("CHANGED as it lives again", findFrom(y, DATAGRAM, 0) >= 0 ? 1 : 0, 1);
    }

    private static void sixteenMakesNone() {
        says("there is none: one is made, if m is below 16");
        Net x = routers(2);
        x.link(R, 1500);
        x.raise(1, false);
        x.attach(1, 1, MAC + 9, 1);
        x.tick(1);
        due("ROUTER 1 tells METRIC 16", hex(x, findFrom(x, DATAGRAM, 1)).endsWith("00004010") ? 1 : 0, 1);
        x.hurry(9);
        due("none is made", x.routes(0), 1);
    }

    private static void firmStays() {
        says("One from nobody with METRIC 1: nothing");
        Net x = routers(2);
        x.own(0, R, 48);
        x.own(1, R, 48);
        x.tick(1);
        x.hurry(9);
        dueRoute(x, 0, 0, P, 64, 1, -1, 0, 0);
        dueRoute(x, 0, 1, R, 48, 1, -1, 0, 0);
        x.tick(1);
        due("nothing CHANGED", x.frames(), 0);
    }

    /** ROUTER 0 has R of ROUTER 1, who has it of ROUTER 3; then ROUTER 2 comes, to which it is an OWN one. */
    private static void lessTakesOver() {
        says("Else, if m is less: it is this neighbour's, METRIC m, UNTIL NOW + 18, CHANGED");
        Net x = routers(2);
        x.node(true);
        x.node(true);
        x.link(Q, 1500);
        x.attach(1, 1, MAC + 11, 1);
        x.attach(3, 1, MAC + 13, 3);
        x.own(3, R, 48);
        x.tick(1);
        x.deliver(findFrom(x, DATAGRAM, 3));
        dropAll(x);
        x.tick(1);
        x.deliver(findFrom(x, DATAGRAM, 1));
        dropAll(x);
        dueRoute(x, 0, 1, R, 48, 3, 0, EUI + 2, 20);
        x.tick(1);
        dropAll(x);
        x.attach(2, 0, MAC + 12, 7);
        x.own(2, R, 48);
        x.tick(1);
        x.deliver(findFrom(x, DATAGRAM, 4));
        dueRoute(x, 0, 1, R, 48, 2, 0, EUI + 12, 22);
        dueRoute(x, 1, 2, R, 48, 2, 2, EUI + 13, 19);
        dropAll(x);
        x.tick(1);
        due("CHANGED", findFrom(x, DATAGRAM, 0) >= 0 ? 1 : 0, 1);
        due("not CHANGED", findFrom(x, DATAGRAM, 1), -1);
    }

    private static void equalStays() {
        says("Else, if m is less");
        Net x = routers(3);
        x.link(Q, 1500);
        x.attach(1, 1, MAC + 11, 1);
        x.attach(2, 1, MAC + 12, 2);
        x.tick(1);
        x.deliver(findFrom(x, DATAGRAM, 1));
        dueRoute(x, 0, 1, Q, 64, 2, 0, EUI + 2, 19);
        x.tick(1);
        x.deliver(findFrom(x, DATAGRAM, 2));
        dueRoute(x, 0, 1, Q, 64, 2, 0, EUI + 2, 19);
        dropAll(x);
        quietTicks(x, 7);
        x.raise(1, false);
        x.tick(1);
        Net y = x.fork();
        x.deliver(findFrom(x, DATAGRAM, 2));
        dueRoute(x, 0, 1, Q, 64, 2, 0, EUI + 2, 19);
        y.deliver(findFrom(y, DATAGRAM, 1));
        dueRoute(y, 0, 1, Q, 64, 16, 0, EUI + 2, 20);
        y.deliver(findFrom(y, DATAGRAM, 2));
        dueRoute(y, 0, 1, Q, 64, 16, 0, EUI + 2, 20);
    }

    private static void nearerTakesOver() {
        says("Else, if m is less: it is this neighbour's, METRIC m, UNTIL NOW + 18, CHANGED");
        Net x = routers(3);
        x.link(Q, 1500);
        x.node(true);
        x.attach(1, 1, MAC + 11, 1);
        x.attach(3, 1, MAC + 13, 3);
        x.own(3, R, 48);
        x.tick(1);
        x.deliver(findFrom(x, DATAGRAM, 4));
        dropAll(x);
        x.tick(1);
        x.deliver(findFrom(x, DATAGRAM, 1));
        dropAll(x);
        dueRoute(x, 0, 1, R, 48, 3, 0, EUI + 2, 20);
        x.tick(1);
        dropAll(x);
        x.attach(2, 1, MAC + 12, 2);
        x.tick(1);
        dropAll(x);
        quietTicks(x, 8);
        x.tick(1);
        x.deliver(findFrom(x, DATAGRAM, 4));
        dropAll(x);
        due("ROUTER 2 has it from ROUTER 3", x.route(2, x.routes(2) - 1, 2), 2);
        x.tick(1);
        x.deliver(findFrom(x, DATAGRAM, 2));
        due("as near: it stays", x.route(0, x.routes(0) - 1, 4), EUI + 2);
        dropAll(x);
        quietTicks(x, 20);
        due("METRIC 16 at UNTIL", x.route(0, x.routes(0) - 1, 2), 16);
        x.tick(1);
        dropAll(x);
        quietTicks(x, 25);
        x.tick(1);
        due("ROUTER 2 has it yet", x.way(2, R) >= 0 ? 1 : 0, 1);
        x.deliver(findFrom(x, DATAGRAM, 2));
        int last = x.routes(0) - 1;
        dueRoute(x, 0, last, R, 48, 3, 0, EUI + 3, 44);
        dropAll(x);
        x.tick(1);
        due("CHANGED", findFrom(x, DATAGRAM, 0) >= 0 ? 1 : 0, 1);
    }

    private static void cutOneIsTaken() {
        says("Else, if m is less: it is this neighbour's");
        Net x = routers(2);
        x.link(Q, 1500);
        x.attach(0, 1, MAC + 9, 1);
        x.tick(1);
        dropAll(x);
        x.raise(1, false);
        dueRoute(x, 0, 1, Q, 64, 16, -1, 0, 13);
        x.own(1, Q, 64);
        x.tick(1);
        x.deliver(findFrom(x, DATAGRAM, 1));
        dueRoute(x, 0, 1, Q, 64, 2, 0, EUI + 2, 20);
        x.tick(1);
        taken(x, "up", x.raise(1, true), 1);
        dueRoute(x, 0, 1, Q, 64, 1, -1, 0, 0);
    }

    /** ROUTERS 0 and 1 count R up between them; 2 hears ROUTER 0 on LINK P, 3 hears ROUTER 1 on LINK Q. */
    private static Net counting(int metric) {
        Net x = new Net();
        for (int i = 0; i < 4; i++) {
            x.node(true);
        }
        x.link(P, 1500);
        x.link(Q, 1500);
        x.link(R, 1500);
        x.attach(0, 0, MAC + 1, 1);
        x.attach(0, 1, MAC + 2, 1);
        x.attach(0, 2, MAC + 3, 1);
        x.attach(1, 0, MAC + 4, 2);
        x.attach(1, 1, MAC + 5, 2);
        x.tick(1);
        x.hurry(50);
        x.tick(1);
        x.raise(2, false);
        x.hurry(50);
        due("ROUTER 0 has R from ROUTER 1", x.route(0, 2, 3), 1);
        for (int i = 0; i < 30 && Math.max(x.route(0, 2, 2), x.route(1, 2, 2)) < metric; i++) {
            x.tick(1);
            x.hurry(50);
        }
        return x;
    }

    private static void countsUp() {
        says("m = METRIC + 1, 16 at most: there is none: one is made, if m is below 16");
        Net x = counting(14);
        due("ROUTER 1", x.route(1, 2, 2), 14);
        due("ROUTER 0", x.route(0, 2, 2), 13);
        x.attach(3, 1, MAC + 7, 4);
        x.tick(1);
        x.hurry(50);
        due("ROUTER 0 has 15", x.route(0, 2, 2), 15);
        int last = x.routes(3) - 1;
        dueRoute(x, 3, last, R, 64, 15, 5, EUI + 5, x.world(0) + 18);
        due("a way", x.way(3, R), last);
        x.attach(2, 0, MAC + 6, 3);
        x.tick(1);
        due("ROUTER 0 tells 15", hex(x, findFrom(x, DATAGRAM, 0)).endsWith("0000400F") ? 1 : 0, 1);
        x.hurry(50);
        dueRoute(x, 1, 2, R, 64, 16, 3, EUI + 1, x.world(0) + 12);
        due("ROUTER 2 makes none of it", x.route(2, x.routes(2) - 1, 0) == R ? 1 : 0, 0);
        x.tick(1);
        x.hurry(50);
        dueRoute(x, 0, 2, R, 64, 16, 1, EUI + 5, x.world(0) + 12);
        due("no METRIC above 16", x.route(3, x.routes(3) - 1, 2), 16);
        due("nor behind it", x.route(1, 2, 2), 16);
    }

    // ---- DATAGRAMS

    private static void poison() {
        says("with ROUTES in order, METRIC 16 in place of those that have their neighbour on that LINK");
        Net x = twoLinks(1500, 1500);
        x.node(true);
        x.attach(3, 0, MAC + 9, 3);
        x.own(3, R, 48);
        x.tick(1);
        x.hurry(50);
        x.tick(2);
        dropAll(x);
        x.tick(1);
        due("all ROUTES at tick 7", countOf(x, DATAGRAM), 2);
        String firm = of(P, 8) + ZERO8 + "00004001" + of(Q, 8) + ZERO8 + "00004001";
        due("LINK 0", hex(x, findFrom(x, DATAGRAM, 1)).substring(2 * 66), firm + of(R, 8) + ZERO8 + "00003010");
        due("LINK 1", hex(x, findFrom(x, DATAGRAM, 2)).substring(2 * 66), firm + of(R, 8) + ZERO8 + "00003002");
    }

    private static void changedOnesInOrder() {
        says("a DATAGRAM of all ROUTES, else of those CHANGED, if there are any; none is CHANGED then");
        Net x = routers(1);
        x.tick(1);
        dropAll(x);
        x.own(0, S, 64);
        x.own(0, Q, 48);
        x.tick(1);
        due("one DATAGRAM", x.frames(), 1);
        due("those CHANGED, in order", hex(x, 0).substring(2 * 66), of(Q, 8) + ZERO8 + "00003001" + of(S, 8) + ZERO8
            + "00004001");
        dropAll(x);
        quietTicks(x, 5);
        x.tick(1);
        due("all at tick 6", x.frame(0, 3), 66 + 20 * 3);
        x.own(0, R, 64);
        dropAll(x);
        quietTicks(x, 11);
        x.own(0, R + 1, 64);
        x.tick(1);
        due("all at tick 12", x.frame(0, 3), 66 + 20 * 5);
        dropAll(x);
        x.tick(1);
        due("none is CHANGED then", x.frames(), 0);
    }

    private static void changedWhileCut() {
        says("A DATAGRAM goes to each LINK of the ROUTER that is up; none is CHANGED then");
        Net x = routers(1);
        x.tick(1);
        dropAll(x);
        x.raise(0, false);
        x.own(0, S, 64);
        x.tick(1);
        due("nothing goes", x.frames(), 0);
        taken(x, "up", x.raise(0, true), 1);
        x.tick(1);
        due("only P is CHANGED now", hex(x, 0).substring(2 * 66), of(P, 8) + ZERO8 + "00004001");
    }

    public static void main(String[] args) {
        ordered();
        madeBehindGone();
        fiftySeventh();
        roomAgain();
        datagramOfAll();
        cutLink();
        upInTime();
        attachedToCut();
        raiseCounts();
        cutWithoutOwnRoute();
        learntThenTold();
        learn();
        learnEnds();
        toldAgain();
        becomesSixteen();
        sixteenMakesNone();
        firmStays();
        lessTakesOver();
        equalStays();
        nearerTakesOver();
        cutOneIsTaken();
        countsUp();
        poison();
        changedOnesInOrder();
        changedWhileCut();
        end();
    }
}
