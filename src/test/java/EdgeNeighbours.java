/** Edges of the document's part 3: ENTRIES, what waits at them, and how they come and go. */
public final class EdgeNeighbours extends Checks {
    // ---- how many

    /** HOST 0 of a settled lan with 32 ENTRIES, 31 of them OPEN; nothing in flight. */
    private static Net fullOfEntries() {
        Net x = settledLan(1500);
        for (int i = 0; i < 31; i++) {
            x.echo(0, P, 0x100 + i, 0);
        }
        dropAll(x);
        return x;
    }

    private static void thirtyThird() {
        says("without an ENTRY (with 32 the PACKET is LOST)");
        Net x = settledLan(1500);
        for (int i = 0; i < 31; i++) {
            due("ENTRIES", x.face(0, 3), 1 + i);
            x.echo(0, P, 0x100 + i, 0);
        }
        due("the 32nd is made", x.face(0, 3), 32);
        due("its ASK", x.frames(), 31);
        dueEntry(x, 0, 31, P, 0x11E, 0, OPEN, 4, 1);
        due("LOST", x.world(5), 0);
        x.echo(0, P, 0x200, 0);
        due("no 33rd", x.face(0, 3), 32);
        due("no ASK", x.frames(), 31);
        due("LOST", x.world(5), 1);
        due("waiting", x.face(0, 4), 31);
        x.echo(0, P, 0x100, 0);
        due("one that is there takes it", x.face(0, 4), 32);
        due("LOST", x.world(5), 1);
        x.echo(2, P, 0x200, 0);
        due("another INTERFACE has its own", x.face(2, 3), 2);
        quietTicks(x, 6);
        due("they went", x.face(0, 3), 1);
        x.echo(0, P, 0x200, 0);
        due("room again", x.face(0, 3), 2);
        dueEntry(x, 0, 1, P, 0x200, 0, OPEN, 7, 1);
    }

    private static void notedWithFull() {
        says("NOTED, without an ENTRY one is made, OLD (none with 32)");
        Net x = fullOfEntries();
        x.echo(2, P, 0x11, 0);
        due("HOST 2 asks", typeOf(x, 0), ASK);
        x.deliver(0);
        due("none is made", x.face(0, 3), 32);
        due("TELL is LOST with 32", x.world(5), 1);
        due("frames", x.frames(), 0);
        Net y = settledLan(1500);
        for (int i = 0; i < 30; i++) {
            y.echo(0, P, 0x100 + i, 0);
        }
        dropAll(y);
        y.echo(2, P, 0x11, 0);
        y.deliver(0);
        due("the 32nd is made", y.face(0, 3), 32);
        dueEntry(y, 0, 31, P, 0x22, MAC + 3, WAITING, 8, 0);
        due("and TELL goes", typeOf(y, 0), TELL);
        due("LOST", y.world(5), 0);
    }

    private static void advertNoted() {
        says("NOTED, without an ENTRY one is made, OLD");
        Net x = routers(1);
        x.node(false);
        x.attach(1, 0, MAC + 9, 9);
        due("a HOST without ENTRIES", x.face(1, 3), 0);
        quietTicks(x, 9);
        x.tick(1);
        x.deliver(find(x, ADVERT));
        dueEntry(x, 1, 0, LOCAL, EUI + 1, MAC + 1, OLD, 0, 0);
    }

    private static void fourthAtOne() {
        says("of more than 3 there the first is LOST");
        Net x = settledLan(1500);
        for (int i = 0; i < 3; i++) {
            x.echo(0, P, 0x22, i);
            due("waiting", x.face(0, 4), 1 + i);
            due("LOST", x.world(5), 0);
        }
        due("one ASK for all", x.frames(), 1);
        Net y = x.fork();
        y.hurry(2);
        due("three fly", y.frames(), 3);
        for (int k = 0; k < 3; k++) {
            due("in order", y.frame(k, 3), 62 + k);
        }
        x.echo(0, P, 0x22, 3);
        due("waiting", x.face(0, 4), 3);
        due("LOST", x.world(5), 1);
        x.echo(0, P, 0x22, 4);
        due("LOST", x.world(5), 2);
        x.hurry(2);
        due("three fly", x.frames(), 3);
        for (int k = 0; k < 3; k++) {
            due("the last three, in order", x.frame(k, 3), 62 + 2 + k);
        }
        due("none waits", x.world(6), 0);
    }

    /** HOST 0 has so many PACKETS that wait, up to three at each of P:100, P:101, .. */
    private static Net waitingAt(int count) {
        Net x = settledLan(1500);
        for (int i = 0; i < count; i++) {
            x.echo(0, P, 0x100 + i / 3, 0);
        }
        dropAll(x);
        due("waiting", x.world(6), count);
        return x;
    }

    private static void fortyNinth() {
        says("with 48 waiting anywhere this one is LOST");
        Net x = waitingAt(47);
        x.echo(2, P, 0x11, 7);
        due("the 48th waits", x.world(6), 48);
        due("at INTERFACE 2", x.face(2, 4), 1);
        due("LOST", x.world(5), 0);
        x.echo(2, P, 0x11, 8);
        due("the 49th doesn't", x.world(6), 48);
        due("LOST", x.world(5), 1);
        x.echo(0, P, 0x10F, 9);
        due("nor at another INTERFACE", x.face(0, 4), 47);
        due("LOST", x.world(5), 2);
        x.hurry(2);
        due("the 48th flies", x.frame(x.frames() - 1, 3), 62 + 7);
        due("waiting", x.world(6), 47);
        x.echo(0, P, 0x10F, 9);
        due("room again", x.world(6), 48);
        due("LOST", x.world(5), 2);
    }

    private static void fortyEightGoesFirst() {
        says("with 48 waiting anywhere this one is LOST, ahead of that");
        Net x = settledLan(1500);
        for (int i = 0; i < 3; i++) {
            x.echo(0, P, 0x22, i);
        }
        int ask = find(x, ASK);
        for (int i = 0; i < 44; i++) {
            x.echo(0, P, 0x100 + i / 3, 0);
        }
        due("waiting", x.world(6), 47);
        Net y = x.fork();
        y.echo(0, P, 0x22, 3);
        due("with 47 the first there is LOST", y.world(5), 1);
        due("waiting", y.world(6), 47);
        y.deliver(ask);
        y.deliver(find(y, TELL));
        due("that with one byte is first now", y.frame(find(y, ECHO), 3), 62 + 1);
        x.echo(0, P, 0x100 + 14, 0);
        due("waiting", x.world(6), 48);
        x.echo(0, P, 0x22, 3);
        due("this one is LOST", x.world(5), 1);
        due("waiting", x.world(6), 48);
        x.deliver(ask);
        x.deliver(find(x, TELL));
        due("the first there is as it was", x.frame(find(x, ECHO), 3), 62);
        due("three fly", countOf(x, ECHO), 3);
        due("waiting", x.world(6), 45);
    }

    // ---- OPEN

    private static void openTries() {
        says("OPEN with TRIES below 3: 1 more, UNTIL NOW + 1, ASK again; OPEN with 3: the ENTRY goes");
        Net x = settledLan(1500);
        x.echo(0, P, 0x99, 0);
        String first = hex(x, 0);
        dueEntry(x, 0, 1, P, 0x99, 0, OPEN, 4, 1);
        for (int tries = 2; tries <= 3; tries++) {
            dropAll(x);
            x.tick(1);
            dueEntry(x, 0, 1, P, 0x99, 0, OPEN, 3 + tries, tries);
            due("ASK again", x.frames(), 1);
            due("TO MANY, the same", hex(x, 0), first);
        }
        due("told of nothing yet", x.count(0, 2), 0);
        dropAll(x);
        x.tick(1);
        refused(x, "the ENTRY", x.entry(0, 1, 0), 2);
        due("no ASK", x.frames(), 0);
        due("told of it", x.count(0, 2), 1);
        due("waiting", x.world(6), 0);
        due("LOST", x.world(5), 0);
    }

    private static void unreachableInOrder() {
        says("for each PACKET that waited, in order, UNREACHABLE 3 comes from this NODE");
        Net x = twoLinks(1500, 1500);
        x.echo(0, P, 1, 0);
        x.hurry(9);
        for (int i = 0; i < 4; i++) {
            x.echo(0, Q, 0x99, i);
        }
        x.hurry(4);
        due("three wait at the ROUTER", x.face(2, 4), 3);
        due("one is LOST", x.world(5), 1);
        quietTicks(x, 5);
        x.tick(1);
        due("frames", x.frames(), 3);
        for (int k = 0; k < 3; k++) {
            due("UNREACHABLE 3", x.bytes(k, 54) >>> 48, 0x0103);
            due("4 bytes 0", x.bytes(k, 58) >>> 32, 0);
            due("to HOST 0", x.bytes(k, 46), 0x11);
            due("about a longer one each time", x.frame(k, 3), 62 + 40 + 8 + 1 + k);
        }
        x.hurry(9);
        due("counted", x.count(0, 2), 3);
    }

    private static void manyEndAtOnce() {
        says("their ENTRIES in order (those there as it begins)");
        Net x = twoLinks(1500, 1500);
        x.echo(1, Q, 0x91, 0);
        x.echo(1, Q, 0x92, 0);
        x.echo(1, Q, 0x93, 0);
        quietTicks(x, 4);
        x.echo(1, Q, 0x94, 0);
        x.echo(1, P, 0x95, 0);
        dropAll(x);
        quietTicks(x, 5);
        due("ENTRIES", x.face(2, 3), 4);
        x.tick(1);
        due("three went", x.face(2, 3), 1);
        dueEntry(x, 2, 0, Q, 0x94, 0, OPEN, 7, 3);
        dueEntry(x, 1, 0, P, 0x95, 0, OPEN, 7, 3);
        due("told of all", x.count(1, 2), 3);
        x.tick(1);
        due("and these", x.face(2, 3) + x.face(1, 3), 0);
        due("told of all", x.count(1, 2), 5);
    }

    /** Three waited at the first ENTRY, one at the second: one is told of four. */
    private static void fewerBehindMore() {
        says("for each PACKET that waited, in order, UNREACHABLE 3 comes from this NODE");
        Net x = settledLan(1500);
        for (int i = 0; i < 3; i++) {
            x.echo(0, P, 0x98, i);
        }
        x.echo(0, P, 0x99, 0);
        quietTicks(x, 6);
        due("told of four", x.count(0, 2), 4);
        x.echo(0, P, 0x97, 0);
        quietTicks(x, 9);
        due("and of one", x.count(0, 2), 5);
    }

    /** Nothing waits at ENTRIES that are ASKED; the one behind is looked at in the same tick. */
    private static void twoAskedEnd() {
        says("ASKED with 3: the ENTRY goes");
        Net x = settledLan(1500);
        x.echo(0, Q, 1, 0);
        dropAll(x);
        x.echo(2, P, 0x11, 0);
        x.deliver(0);
        dropAll(x);
        dueEntry(x, 0, 0, LOCAL, EUI + 2, MAC + 2, WAITING, 8, 0);
        dueEntry(x, 0, 1, P, 0x22, MAC + 3, WAITING, 8, 0);
        quietTicks(x, 10);
        dueEntry(x, 0, 0, LOCAL, EUI + 2, MAC + 2, ASKED, 11, 3);
        dueEntry(x, 0, 1, P, 0x22, MAC + 3, ASKED, 11, 3);
        x.tick(1);
        due("both went", x.face(0, 3), 0);
    }

    private static void madeBehindGone() {
        says("ENTRIES, in the order in which they were made");
        Net x = settledLan(1500);
        x.echo(0, P, 0x91, 0);
        x.tick(1);
        x.echo(0, P, 0x92, 0);
        x.echo(0, P, 0x93, 0);
        quietTicks(x, 6);
        due("the second of four went", x.face(0, 3), 3);
        x.echo(0, P, 0x94, 0);
        long[] lows = {EUI + 2, 0x92, 0x93, 0x94};
        long[] tries = {0, 3, 3, 1};
        for (int j = 0; j < 4; j++) {
            due("LOW of ENTRY " + j, x.entry(0, j, 1), lows[j]);
            due("TRIES of ENTRY " + j, x.entry(0, j, 5), tries[j]);
        }
        due("waiting", x.face(0, 4), 3);
        quietTicks(x, 7);
        due("those two went", x.face(0, 3), 2);
        dueEntry(x, 0, 1, P, 0x94, 0, OPEN, 8, 2);
        due("waiting", x.face(0, 4), 1);
    }

    /** The UNREACHABLE needs a new ENTRY in the same tick; that is not looked at before the next one. */
    private static void madeWithinTick() {
        says("(those there as it begins)");
        Net x = new Net();
        x.node(false);
        x.node(true);
        x.link(P, 1500);
        x.link(Q, 1500);
        x.attach(0, 0, MAC + 1, 0x11);
        x.attach(1, 1, MAC + 4, 1);
        x.attach(1, 0, MAC + 2, 1);
        x.tick(1);
        x.hurry(9);
        x.tick(2);
        x.echo(0, Q, 0x99, 0);
        x.hurry(9);
        due("the ROUTER asks at INTERFACE 1", x.face(1, 3), 1);
        due("and knows nobody at INTERFACE 2", x.face(2, 3), 0);
        quietTicks(x, 6);
        dueEntry(x, 2, 0, P, 0x11, 0, OPEN, 7, 1);
        due("UNREACHABLE waits", x.face(2, 4), 1);
    }

    private static void openOnCut() {
        says("A frame that is sent on a LINK that is cut is none");
        Net x = settledLan(1500);
        x.raise(0, false);
        x.echo(0, P, 0x22, 0);
        dueEntry(x, 0, 1, P, 0x22, 0, OPEN, 4, 1);
        due("no ASK flies", x.frames(), 0);
        due("it waits", x.face(0, 4), 1);
        x.tick(3);
        due("told of it all the same", x.count(0, 2), 1);
        due("LOST", x.world(5), 0);
    }

    // ---- GOOD, OLD, WAITING, ASKED

    /** HOST 0 knows HOST 2 as GOOD since tick 3: its ENTRY 1. */
    private static Net good() {
        Net x = settledLan(1500);
        x.echo(0, P, 0x22, 0);
        x.hurry(9);
        dueEntry(x, 0, 1, P, 0x22, MAC + 3, GOOD, 33, 0);
        return x;
    }

    private static void goodEnds() {
        says("GOOD is UNTIL NOW + 30. GOOD becomes OLD.");
        Net x = good();
        quietTicks(x, 32);
        dueEntry(x, 0, 1, P, 0x22, MAC + 3, GOOD, 33, 0);
        x.tick(1);
        dueEntry(x, 0, 1, P, 0x22, MAC + 3, OLD, 0, 0);
        quietTicks(x, 100);
        dueEntry(x, 0, 1, P, 0x22, MAC + 3, OLD, 0, 0);
    }

    private static void sendingWithGood() {
        says("Else it is sent; an OLD one becomes WAITING, UNTIL NOW + 5");
        Net x = good();
        x.tick(1);
        x.echo(0, P, 0x22, 0);
        due("sent at once", typeOf(x, x.frames() - 1), ECHO);
        dueEntry(x, 0, 1, P, 0x22, MAC + 3, GOOD, 33, 0);
        quietTicks(x, 33);
        x.echo(0, P, 0x22, 0);
        dueEntry(x, 0, 1, P, 0x22, MAC + 3, WAITING, 38, 0);
        due("sent at once", countOf(x, ECHO), 1);
        dropAll(x);
        x.tick(2);
        x.echo(0, P, 0x22, 0);
        dueEntry(x, 0, 1, P, 0x22, MAC + 3, WAITING, 38, 0);
        due("sent at once", countOf(x, ECHO), 1);
    }

    private static void waitingAndAsked() {
        says("WAITING becomes ASKED, TRIES 1, UNTIL NOW + 1, ASK goes; ASKED with TRIES below 3; with 3: the ENTRY goes");
        Net x = good();
        quietTicks(x, 33);
        x.echo(0, P, 0x22, 0);
        dropAll(x);
        quietTicks(x, 37);
        dueEntry(x, 0, 1, P, 0x22, MAC + 3, WAITING, 38, 0);
        for (int tries = 1; tries <= 3; tries++) {
            x.tick(1);
            dueEntry(x, 0, 1, P, 0x22, MAC + 3, ASKED, 38 + tries, tries);
            due("ASK to the ADDRESS and MAC themselves", plain(x, find(x, ASK), 56), header(MAC + 3, MAC + 1, 32, 58, 255)
                + address(P, 0x11) + address(P, 0x22) + "8700....00000000" + address(P, 0x22) + "0101" + of(MAC + 1, 6));
            dropAll(x);
            x.echo(0, P, 0x22, 0);
            due("what is for it is sent", countOf(x, ECHO), 1);
            dueEntry(x, 0, 1, P, 0x22, MAC + 3, ASKED, 38 + tries, tries);
            dropAll(x);
        }
        x.tick(1);
        refused(x, "the ENTRY", x.entry(0, 1, 0), 2);
        due("no ASK", countOf(x, ASK), 0);
        due("nobody is told", x.count(0, 2), 0);
    }

    private static void toldInTime() {
        says("others: this MAC, GOOD if it was asked");
        Net x = good();
        quietTicks(x, 33);
        Net old = x.fork();
        x.echo(0, P, 0x22, 0);
        dropAll(x);
        quietTicks(x, 37);
        for (int tries = 1; tries <= 3; tries++) {
            x.tick(1);
            Net y = x.fork();
            y.deliver(find(y, ASK));
            y.deliver(find(y, TELL));
            dueEntry(y, 0, 1, P, 0x22, MAC + 3, GOOD, 37 + tries + 30, 0);
            dropAll(x);
        }
        dueEntry(old, 0, 1, P, 0x22, MAC + 3, OLD, 0, 0);
    }

    /** A TELL that comes twice makes GOOD anew each time. */
    private static void toldAgain() {
        says("others: this MAC, GOOD if it was asked; GOOD is UNTIL NOW + 30");
        Net x = settledLan(1500);
        x.echo(0, P, 0x22, 0);
        x.hurry(1);
        x.twice(0);
        x.twice(0);
        x.deliver(0);
        dueEntry(x, 0, 1, P, 0x22, MAC + 3, GOOD, 33, 0);
        x.tick(2);
        x.deliver(0);
        dueEntry(x, 0, 1, P, 0x22, MAC + 3, GOOD, 35, 0);
        Net y = settledLan(1500);
        y.echo(0, P, 0x22, 0);
        y.hurry(1);
        due("TELL flies", typeOf(y, 0), TELL);
        y.tick(3);
        due("the ENTRY went ahead of it", y.face(0, 3), 1);
        y.deliver(0);
        due("TELL makes none", y.face(0, 3), 1);
    }

    /** Each of two HOSTS notes the other by its ASK, ahead of the TELL that answers its own. */
    private static void tellOfWaiting() {
        says("others: this MAC, GOOD if it was asked");
        Net x = settledLan(1500);
        x.echo(2, P, 0x11, 0);
        x.echo(0, P, 0x22, 0);
        x.deliver(0);
        x.deliver(0);
        dueEntry(x, 0, 1, P, 0x22, MAC + 3, WAITING, 8, 0);
        dueEntry(x, 2, 1, P, 0x11, MAC + 1, WAITING, 8, 0);
        x.tick(1);
        x.deliver(findFrom(x, TELL, 2));
        dueEntry(x, 0, 1, P, 0x22, MAC + 3, GOOD, 34, 0);
        x.deliver(findFrom(x, TELL, 0));
        dueEntry(x, 2, 1, P, 0x11, MAC + 1, GOOD, 34, 0);
    }

    private static void tellOfOld() {
        says("others: this MAC, GOOD if it was asked, else OLD if the MAC is another one");
        Net x = twins();
        quietTicks(x, 10);
        x.attach(4, 0, MAC + 5, 7);
        x.tick(1);
        x.deliver(find(x, ADVERT));
        keepType(x, ASK);
        x.echo(3, P, 7, 0);
        x.deliver(1);
        x.drop(findFrom(x, TELL, 0));
        x.deliver(0);
        due("one TELL for HOST 3, two to all", countOf(x, TELL), 3);
        x.deliver(1);
        dueEntry(x, 3, 1, P, 7, MAC + 1, WAITING, 16, 0);
        x.deliver(findToAll(x));
        dueEntry(x, 3, 1, P, 7, MAC + 3, OLD, 0, 0);
        x.deliver(find(x, TELL));
        dueEntry(x, 3, 1, P, 7, MAC + 3, GOOD, 41, 0);
    }

    private static int findToAll(Net x) {
        for (int k = 0; k < x.frames(); k++) {
            if (typeOf(x, k) == TELL && x.bytes(k, 0) >>> 16 == TO_ALL) {
                return k;
            }
        }
        return -1;
    }

    // ---- in a HOST

    private static void routerGoes() {
        says("ASKED with 3: the ENTRY goes; in a HOST that ROUTER goes, too");
        Net x = routers(3);
        x.node(false);
        x.attach(3, 0, MAC + 9, 9);
        quietTicks(x, 9);
        for (int now = 10; now <= 12; now++) {
            x.tick(1);
            x.hurry(50);
        }
        due("ROUTERS known", x.count(3, 7), 3);
        quietTicks(x, 14);
        x.echo(3, Q, 1, 0);
        due("by the first", x.bytes(0, 0) >>> 16, MAC + 1);
        dropAll(x);
        quietTicks(x, 21);
        dueEntry(x, 3, 0, LOCAL, EUI + 1, MAC + 1, ASKED, 22, 3);
        due("ROUTERS known", x.count(3, 7), 3);
        quietTicks(x, 22);
        due("ENTRIES", x.face(3, 3), 2);
        due("ROUTERS known", x.count(3, 7), 2);
        Net y = x.fork();
        quietTicks(y, 50);
        due("the others stay as long as they said", y.count(3, 7), 2);
        quietTicks(y, 51);
        due("the second", y.count(3, 7), 1);
        quietTicks(y, 52);
        due("the third", y.count(3, 7), 0);
        x.echo(3, Q, 1, 0);
        due("by the next", x.bytes(0, 0) >>> 16, MAC + 2);
        due("the others stay ON LINK", x.count(3, 8), 1);
    }

    /** The second of three goes: the first stays first, the third is behind it. */
    private static void middleRouterGoes() {
        says("ASKED with 3: the ENTRY goes; in a HOST that ROUTER goes, too");
        Net x = routers(3);
        x.node(false);
        x.attach(3, 0, MAC + 9, 9);
        quietTicks(x, 9);
        for (int now = 10; now <= 12; now++) {
            x.tick(1);
            x.hurry(50);
        }
        quietTicks(x, 14);
        x.echo(3, LOCAL, EUI + 2, 0);
        dropAll(x);
        quietTicks(x, 22);
        due("ROUTERS known", x.count(3, 7), 2);
        x.echo(3, Q, 1, 0);
        due("by the first", x.bytes(0, 0) >>> 16, MAC + 1);
        dropAll(x);
        quietTicks(x, 30);
        due("ROUTERS known", x.count(3, 7), 1);
        x.echo(3, Q, 1, 0);
        due("by the third", x.bytes(0, 0) >>> 16, MAC + 3);
    }

    /** A ROUTER is known without an ENTRY, as there were 32 when its ADVERT came. */
    private static void openRouterStays() {
        says("OPEN with 3: the ENTRY goes");
        Net x = routers(2);
        x.node(false);
        x.attach(2, 0, MAC + 9, 9);
        quietTicks(x, 9);
        x.tick(1);
        x.hurry(50);
        quietTicks(x, 19);
        for (int i = 0; i < 31; i++) {
            x.echo(2, P, 0x100 + i, 0);
        }
        dropAll(x);
        quietTicks(x, 20);
        x.tick(1);
        due("ENTRIES", x.face(2, 3), 32);
        x.deliver(find(x, ADVERT));
        due("no ENTRY for ROUTER 1", x.face(2, 3), 32);
        due("but it is known", x.count(2, 7), 2);
        quietTicks(x, 22);
        due("ENTRIES", x.face(2, 3), 1);
        x.echo(2, Q, 1, 0);
        dropAll(x);
        quietTicks(x, 30);
        due("ROUTER 0 went", x.count(2, 7), 1);
        x.echo(2, Q, 1, 0);
        dueEntry(x, 2, 0, LOCAL, EUI + 2, 0, OPEN, 31, 1);
        dropAll(x);
        int told = x.count(2, 2);
        quietTicks(x, 33);
        due("the ENTRY went", x.face(2, 3), 0);
        due("told of it", x.count(2, 2), told + 1);
        due("the ROUTER stays", x.count(2, 7), 1);
    }

    private static void notInRouter() {
        says("in a HOST that ROUTER goes, too");
        Net x = routers(2);
        x.tick(1);
        x.hurry(50);
        x.echo(0, LOCAL, EUI + 2, 0);
        x.hurry(9);
        due("a ROUTER knows no ROUTERS", x.count(0, 7), 0);
        quietTicks(x, 60);
        due("ROUTERS known", x.count(0, 7), 0);
    }

    // ---- ASK

    private static void whoAsks() {
        says("ASK comes from LOCAL (for an ADDRESS whose HIGH is LOCAL's, or by a ROUTER) or the GLOBAL ADDRESS if ASSIGNED");
        Net x = settledLan(1500);
        x.echo(0, LOCAL, 0x77, 0);
        due("a HOST for LOCAL, HIGH", x.bytes(0, 22), LOCAL);
        due("LOW", x.bytes(0, 30), EUI + 1);
        x.echo(0, P, 0x77, 0);
        due("a HOST for GLOBAL, HIGH", x.bytes(1, 22), P);
        due("LOW", x.bytes(1, 30), 0x11);
        x.echo(1, P, 0x77, 0);
        due("a ROUTER for GLOBAL, HIGH", x.bytes(2, 22), LOCAL);
        due("LOW", x.bytes(2, 30), EUI + 2);
        x.echo(1, LOCAL, 0x77, 0);
        due("a ROUTER for LOCAL, HIGH", x.bytes(3, 22), LOCAL);
        due("LOW", x.bytes(3, 30), EUI + 2);
    }

    /** HOST 3 comes late to a settled lan, with ID 33. */
    private static Net withLateHost() {
        Net x = settledLan(1500);
        x.node(false);
        x.attach(3, 0, MAC + 9, 0x33);
        return x;
    }

    private static void askOfAbsent() {
        says("When ASK is for an ADDRESS of this INTERFACE: LOCAL, or GLOBAL and ASSIGNED");
        Net x = withLateHost();
        x.echo(0, P, 0x33, 0);
        x.hurry(1);
        due("an ABSENT one says nothing", x.frames(), 0);
        due("and notes nobody", x.face(3, 3), 0);
        x.echo(0, LOCAL, EUI + 9, 0);
        x.hurry(1);
        due("LOCAL is there at once", typeOf(x, 0), TELL);
        due("and who asked is NOTED", x.face(3, 3), 1);
        dueEntry(x, 3, 0, LOCAL, EUI + 1, MAC + 1, WAITING, 8, 0);
        due("TELL comes from what was asked for", x.bytes(0, 22), LOCAL);
        due("LOW", x.bytes(0, 30), EUI + 9);
        due("to who asked", x.bytes(0, 46), EUI + 1);
        due("the byte of a HOST that was asked", byteOf(x, 0, 58), 96);
    }

    private static void askOfTrying() {
        says("GLOBAL and TRYING, from ADDRESS 0: it is DOUBLE from now on");
        Net x = withLateHost();
        quietTicks(x, 10);
        x.tick(1);
        x.deliver(find(x, ADVERT));
        due("TRYING", x.face(3, 2), 1);
        dropAll(x);
        int entries = x.face(3, 3);
        x.echo(0, P, 0x33, 0);
        x.hurry(1);
        due("from another ADDRESS nothing", x.frames(), 0);
        due("TRYING yet", x.face(3, 2), 1);
        due("nobody is NOTED", x.face(3, 3), entries);
        x.tick(2);
        due("ASSIGNED", x.face(3, 2), 2);
        x.deliver(find(x, ASK));
        due("now it tells", typeOf(x, x.frames() - 1), TELL);
    }

    private static void askOfDouble() {
        says("When ASK is for an ADDRESS of this INTERFACE: LOCAL, or GLOBAL and ASSIGNED");
        Net x = settledLan(1500);
        x.node(false);
        x.attach(3, 0, MAC + 9, 0x22);
        quietTicks(x, 10);
        x.tick(1);
        x.deliver(find(x, ADVERT));
        keepType(x, ASK);
        x.deliver(0);
        x.deliver(0);
        due("DOUBLE", x.face(3, 2), 3);
        due("the other is ASSIGNED", x.face(2, 2), 2);
        dropAll(x);
        x.echo(0, P, 0x22, 0);
        x.hurry(1);
        due("one of them tells", x.frames(), 1);
        due("that which is ASSIGNED", x.frame(0, 1), 2);
        x.hurry(9);
        x.echo(0, LOCAL, EUI + 9, 0);
        x.hurry(1);
        due("LOCAL of the DOUBLE one tells", x.frame(0, 1), 3);
        x.hurry(9);
        due("without an ADDRESS its REPLY is LOST", x.world(5), 1);
        quietTicks(x, 20);
        x.tick(1);
        x.deliver(find(x, ADVERT));
        due("DOUBLE for ever", x.face(3, 2), 3);
        due("it doesn't ask again", countOf(x, ASK), 0);
    }

    private static void askFromNobody() {
        says("from ADDRESS 0: TELL goes to FF02::1; else what it tells is NOTED for who asked");
        Net x = settledLan(1500);
        x.node(false);
        x.attach(3, 0, MAC + 9, 0x22);
        quietTicks(x, 10);
        x.tick(1);
        x.deliver(find(x, ADVERT));
        keepType(x, ASK);
        int entries = x.face(2, 3);
        x.deliver(0);
        due("MAC of all", x.bytes(0, 0) >>> 16, TO_ALL);
        due("the byte of a HOST that was asked by nobody", byteOf(x, 0, 58), 32);
        due("nobody is NOTED", x.face(2, 3), entries);
        due("the one that tells stays ASSIGNED", x.face(2, 2), 2);
    }

    // ---- NOTED

    /** HOSTS 0 and 2 both have P:7, for neither heard the other ask; HOST 3 has P:9; at tick 3. */
    private static Net twins() {
        Net x = new Net();
        x.node(false);
        x.node(true);
        x.node(false);
        x.node(false);
        x.node(false);
        x.link(P, 1500);
        x.attach(0, 0, MAC + 1, 7);
        x.attach(1, 0, MAC + 2, 1);
        x.attach(2, 0, MAC + 3, 7);
        x.attach(3, 0, MAC + 4, 9);
        x.tick(1);
        x.deliver(0);
        dropAll(x);
        x.tick(2);
        due("both are ASSIGNED", x.face(0, 2) + x.face(2, 2), 4);
        return x;
    }

    private static void notedAnotherMac() {
        says("with another MAC: it has this MAC and is OLD");
        Net x = twins();
        x.echo(0, P, 9, 0);
        x.deliver(0);
        dueEntry(x, 3, 1, P, 7, MAC + 1, WAITING, 8, 0);
        dropAll(x);
        x.tick(1);
        dropAll(x);
        Net y = x.fork();
        x.echo(2, P, 9, 0);
        x.deliver(0);
        dueEntry(x, 3, 1, P, 7, MAC + 3, WAITING, 9, 0);
        due("TELL goes to the other", x.bytes(0, 0) >>> 16, MAC + 3);
        due("ENTRIES", x.face(3, 3), 2);
        y.tick(1);
        due("the first asks again", y.frames(), 1);
        y.deliver(0);
        dueEntry(y, 3, 1, P, 7, MAC + 1, WAITING, 8, 0);
    }

    private static void notedGood() {
        says("OPEN, or with another MAC: it has this MAC and is OLD");
        Net x = good();
        dueEntry(x, 2, 1, P, 0x11, MAC + 1, WAITING, 8, 0);
        quietTicks(x, 7);
        x.tick(1);
        dueEntry(x, 2, 1, P, 0x11, MAC + 1, ASKED, 9, 1);
        x.deliver(find(x, ASK));
        dueEntry(x, 0, 1, P, 0x22, MAC + 3, GOOD, 33, 0);
        Net y = twins();
        y.echo(3, P, 7, 0);
        y.deliver(0);
        y.deliver(0);
        dueEntry(y, 3, 1, P, 7, MAC + 1, GOOD, 33, 0);
        dropAll(y);
        quietTicks(y, 7);
        y.tick(1);
        y.deliver(findFrom(y, ASK, 0));
        dueEntry(y, 3, 1, P, 7, MAC + 1, GOOD, 33, 0);
        y.deliver(findFrom(y, ASK, 2));
        dueEntry(y, 3, 1, P, 7, MAC + 3, WAITING, 13, 0);
    }

    private static void notedOpen() {
        says("OPEN: it has this MAC and is OLD; what waits is sent then, in order (an OLD one becomes WAITING thereby)");
        Net x = settledLan(1500);
        x.echo(2, P, 0x11, 5);
        x.echo(2, P, 0x11, 6);
        dropAll(x);
        dueEntry(x, 2, 1, P, 0x11, 0, OPEN, 4, 1);
        x.echo(0, P, 0x22, 0);
        x.deliver(0);
        dueEntry(x, 2, 1, P, 0x11, MAC + 1, WAITING, 8, 0);
        due("two that waited, then TELL", x.frames(), 3);
        due("first", x.frame(0, 3), 62 + 5);
        due("second", x.frame(1, 3), 62 + 6);
        due("TELL", typeOf(x, 2), TELL);
        due("none waits", x.face(2, 4), 0);
    }

    /** With 48 that wait, none waits at HOST 2's ENTRY for the ROUTER when its ADVERT comes. */
    private static void notedWithoutWaiting() {
        says("UNTIL (0 of an OLD one), TRIES (0 but of OPEN and ASKED)");
        Net x = settledLan(1500);
        x.echo(2, Q, 1, 0);
        dropAll(x);
        quietTicks(x, 10);
        x.tick(1);
        keepType(x, ADVERT);
        due("HOST 2's ENTRY for the ROUTER went", x.face(2, 3), 0);
        for (int i = 0; i < 48; i++) {
            x.echo(0, P, 0x100 + i / 3, 0);
        }
        x.echo(2, LOCAL, EUI + 2, 0);
        due("LOST", x.world(5), 1);
        x.deliver(0);
        dueEntry(x, 2, 0, LOCAL, EUI + 2, MAC + 2, OLD, 0, 0);
        due("ENTRIES", x.face(2, 3), 1);
    }

    private static void tellAnotherMac() {
        says("others: this MAC, GOOD if it was asked, else OLD if the MAC is another one");
        Net x = twins();
        x.echo(3, P, 7, 0);
        x.deliver(0);
        due("both tell", countOf(x, TELL), 2);
        x.deliver(0);
        dueEntry(x, 3, 1, P, 7, MAC + 1, GOOD, 33, 0);
        Net y = x.fork();
        y.tick(1);
        y.deliver(findFrom(y, TELL, 2));
        dueEntry(y, 3, 1, P, 7, MAC + 3, GOOD, 34, 0);
        dropAll(x);
        quietTicks(x, 10);
        x.attach(4, 0, MAC + 5, 7);
        x.tick(1);
        x.deliver(find(x, ADVERT));
        keepType(x, ASK);
        x.deliver(0);
        due("both tell all", countOf(x, TELL), 2);
        x.deliver(0);
        dueEntry(x, 3, 1, P, 7, MAC + 1, GOOD, 33, 0);
        due("DOUBLE", x.face(4, 2), 3);
        x.deliver(0);
        dueEntry(x, 3, 1, P, 7, MAC + 3, OLD, 0, 0);
        due("the twins stay ASSIGNED", x.face(0, 2) + x.face(2, 2), 4);
    }

    private static void tellForTrying() {
        says("TELL for a TRYING ADDRESS: DOUBLE");
        Net x = settledLan(1500);
        x.node(false);
        x.attach(3, 0, MAC + 9, 0x22);
        quietTicks(x, 10);
        x.tick(1);
        x.deliver(find(x, ADVERT));
        keepType(x, ASK);
        x.deliver(0);
        due("TELL to all", x.frames(), 1);
        Net y = x.fork();
        x.tick(1);
        x.deliver(0);
        due("a tick ahead of UNTIL", x.face(3, 2), 3);
        x.tick(1);
        due("it stays so", x.face(3, 2), 3);
        y.tick(2);
        due("at UNTIL it is ASSIGNED", y.face(3, 2), 2);
        y.deliver(0);
        due("and then it stays so", y.face(3, 2), 2);
    }

    public static void main(String[] args) {
        thirtyThird();
        notedWithFull();
        advertNoted();
        fourthAtOne();
        fortyNinth();
        fortyEightGoesFirst();
        openTries();
        unreachableInOrder();
        manyEndAtOnce();
        fewerBehindMore();
        twoAskedEnd();
        madeBehindGone();
        madeWithinTick();
        openOnCut();
        goodEnds();
        sendingWithGood();
        waitingAndAsked();
        toldInTime();
        toldAgain();
        tellOfWaiting();
        tellOfOld();
        routerGoes();
        middleRouterGoes();
        openRouterStays();
        notInRouter();
        whoAsks();
        askOfAbsent();
        askOfTrying();
        askOfDouble();
        askFromNobody();
        notedAnotherMac();
        notedGood();
        notedOpen();
        notedWithoutWaiting();
        tellAnotherMac();
        tellForTrying();
        end();
    }
}
