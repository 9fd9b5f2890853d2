/** Edges of the document's parts 1, 2 and 8: frames in flight, their bytes, and what a tick does in which order. */
public final class EdgeFrames extends Checks {
    // ---- 1: frames in flight

    /** 96 frames that ROUTER 1 of a lan sent at tick 1. */
    private static Net crowd(int frames) {
        Net x = lan(1500);
        x.tick(1);
        while (x.frames() < frames) {
            x.twice(0);
        }
        return x;
    }

    private static void oneMoreIsLost() {
        says("96 at most; one more than 96 is LOST (counted)");
        Net x = crowd(95);
        x.own(1, Q, 64);
        x.tick(1);
        due("the 96th flies", x.frames(), 96);
        due("LOST", x.world(5), 0);
        due("sent so far", x.world(4), 3);
        due("it is the last", x.frame(95, 2), 2);
        x.own(1, R, 64);
        x.tick(1);
        due("frames", x.frames(), 96);
        due("the 97th is LOST", x.world(5), 1);
        due("and not sent", x.world(4), 3);
        due("the last is what it was", x.frame(95, 2), 2);
    }

    private static void partlyLost() {
        says("96 at most; one more than 96 is LOST (counted)");
        Net x = crowd(95);
        x.deliver(0);
        due("one goes, two come", x.frames(), 96);
        due("LOST", x.world(5), 0);
        Net y = crowd(96);
        y.deliver(0);
        due("one goes, two would come", y.frames(), 96);
        due("the second is LOST", y.world(5), 1);
        due("the first of them flies", y.frame(95, 1), 0);
    }

    private static void cutIsNone() {
        says("A frame that is sent on a LINK that is cut is none");
        Net x = routers(1);
        x.link(Q, 1500);
        x.attach(0, 1, MAC + 9, 1);
        x.raise(1, false);
        x.tick(1);
        due("on LINK 0 alone", x.frames(), 1);
        due("LINK", x.frame(0, 0), 0);
        due("sent", x.world(4), 1);
        due("LOST", x.world(5), 0);
        quietTicks(x, 8);
        x.own(0, R, 64);
        x.tick(1);
        int sent = x.world(4);
        while (x.frames() < 96) {
            x.twice(0);
        }
        x.tick(1);
        due("the ADVERT on LINK 0 is LOST, that on LINK 1 is none", x.world(5), 1);
        due("none is sent", x.world(4), sent);
    }

    private static void vanishing() {
        says("frames sent more than 8 ticks ago vanish");
        Net x = routers(1);
        x.tick(1);
        x.twice(0);
        x.tick(8);
        due("8 ticks ago: both and that of tick 6", x.frames(), 3);
        due("tick", x.frame(0, 2), 1);
        due("a copy is as old", x.frame(1, 2), 1);
        Net y = x.fork();
        x.tick(1);
        due("9 ticks ago: those of 6 and 10", x.frames(), 2);
        due("tick", x.frame(0, 2), 6);
        due("tick", x.frame(1, 2), 10);
        due("they are not LOST", x.world(5), 0);
        y.twice(1);
        y.twice(0);
        y.tick(1);
        due("a copy's copy is as old", y.frames(), 2);
    }

    private static void vanishFirst() {
        says("NOW grows; frames sent more than 8 ticks ago vanish; then each NODE");
        Net x = crowd(96);
        x.tick(8);
        due("the DATAGRAM of tick 7 is LOST", x.world(5), 1);
        x.own(1, Q, 64);
        x.tick(1);
        due("at tick 10 there is room again", x.world(5), 1);
        due("frames", x.frames(), 1);
        due("tick", x.frame(0, 2), 10);
    }

    private static void rowOrder() {
        says("FRAMES IN FLIGHT lie in a row, the latest one last");
        Net x = routers(3);
        x.tick(1);
        due("frames", x.frames(), 4);
        int[] faces = {0, 1, 1, 2};
        for (int k = 0; k < 4; k++) {
            due("INTERFACE of frame " + k, x.frame(k, 1), faces[k]);
        }
        taken(x, "drop the second", x.drop(1), 3);
        due("what is behind comes up", x.frame(1, 1), 1);
        due("it is the DATAGRAM", typeOf(x, 1), DATAGRAM);
        x.twice(0);
        due("a copy is last", x.frame(3, 1), 0);
        x.tick(1);
        due("ADVERT of ROUTER 2 behind it", x.frame(4, 1), 2);
    }

    private static void cutLinkLosesItsFrames() {
        says("The LINK is cut (all its frames vanish)");
        Net x = twoLinks(1500, 1500);
        x.tick(4);
        due("DATAGRAMS of tick 7", x.frames(), 2);
        x.twice(0);
        x.twice(1);
        x.raise(0, false);
        due("those of LINK 1 stay", x.frames(), 2);
        due("LINK", x.frame(0, 0), 1);
        due("LINK", x.frame(1, 0), 1);
        due("not LOST", x.world(5), 0);
        x.raise(1, false);
        due("none", x.frames(), 0);
        x.raise(0, true);
        due("they don't come again", x.frames(), 0);
    }

    // ---- 2: bytes

    private static long low(int... words) {
        long low = 0;
        for (int word : words) {
            low = low << 16 | word;
        }
        return low;
    }

    /** The sum of all but LOW of what HOST 0 sends to Q is C056, for a body of none. */
    private static void checksums() {
        says("carries added again till there are none, all bits turned; 0 as FFFF");
        long[] lows = {low(0x3FA9), low(0x3FA8), low(0x3FAA), low(0xFFFF, 0x3FA9), low(0xFFFF, 0x3FAA),
            low(0xFFFF, 0xFFFF, 0xFFFF, 0xFFFF)};
        int[] sums = {0xFFFF, 1, 0xFFFE, 0xFFFF, 0xFFFE, 0x3FA9};
        for (int i = 0; i < lows.length; i++) {
            Net x = settledLan(1500);
            x.echo(0, Q, lows[i], 0);
            due("it flies to the ROUTER", x.frames(), 1);
            due("CHECKSUM " + i, x.bytes(0, 56) >>> 48, sums[i]);
        }
    }

    private static void oddChecksum() {
        says("in numbers of 2 bytes (a last odd byte with 0 behind it)");
        Net x = settledLan(1500);
        x.echo(0, Q, 0, 3);
        due("C056, 3 bytes more, 0001, 0200", x.bytes(0, 56) >>> 48, 0xFFFF - (0xC056 + 3 + 1 + 0x200));
        x.echo(0, Q, 0, 2);
        due("C056, 2 bytes more, its number 1, 0001", x.bytes(1, 56) >>> 48, 0xFFFF - (0xC056 + 2 + 1 + 1));
    }

    private static void checksumOfCut() {
        says("of NEXT (of what is not cut) and of all bytes");
        Net x = settledLan(1280);
        x.echo(0, Q, 0, 1300);
        due("parts", x.frames(), 2);
        String body = packet(x, 0).substring(2 * 48) + packet(x, 1).substring(2 * 48);
        due("bytes", body.length(), 2 * 1308);
        int sum = 0x2001 + 0x11 + 0x2001 + 1 + 58 + 1308;
        for (int i = 0; i < body.length(); i += 4) {
            sum += Integer.parseInt(body.substring(i, i + 4), 16);
        }
        while (sum > 0xFFFF) {
            sum = (sum & 0xFFFF) + (sum >> 16);
        }
        due("sum with the CHECKSUM", sum, 0xFFFF);
    }

    private static void echoBody() {
        says("so many body bytes (byte k: k modulo 256)");
        Net x = settledLan(1500);
        x.echo(0, Q, 0, 258);
        due("bytes", x.frame(0, 3), 62 + 258);
        due("0 .. 7", x.bytes(0, 62), 0x0001020304050607L);
        due("127, 128", x.bytes(0, 62 + 124), 0x7C7D7E7F80818283L);
        due("254, 255, 0, 1", x.bytes(0, 62 + 250), 0xFAFBFCFDFEFF0001L);
        x.echo(0, Q, 0, 0);
        due("none", x.frame(1, 3), 62);
        due("number and ECHOES before", x.bytes(1, 58), 0x0000000100000000L);
    }

    private static void groups() {
        says("FF02::1:FFxx:xxxx with the last three bytes of an ADDRESS; MAC 33 33 and the last four bytes of the ADDRESS");
        Net x = settledLan(1500);
        x.echo(0, P, 0x1122334455FEDCBAL, 0);
        due("MAC", x.bytes(0, 0) >>> 16, 0x3333FFFEDCBAL);
        due("HIGH", x.bytes(0, 38), 0xFF02000000000000L);
        due("LOW", x.bytes(0, 46), 0x00000001FFFEDCBAL);
        x.echo(0, P, -1L, 0);
        due("MAC", x.bytes(1, 0) >>> 16, 0x3333FFFFFFFFL);
        x.echo(0, P, 0xFFFFFFFFFF000000L, 0);
        due("MAC", x.bytes(2, 0) >>> 16, 0x3333FF000000L);
        due("LOW", x.bytes(2, 46), 0x00000001FF000000L);
    }

    private static void arrivalOrder() {
        says("A frame arrives at the INTERFACES of its LINK, but that which sent it, in order");
        Net x = new Net();
        x.node(false);
        x.node(true);
        x.node(false);
        x.node(false);
        x.link(P, 1500);
        x.link(Q, 1500);
        x.attach(2, 0, MAC + 1, 0x22);
        x.attach(1, 0, MAC + 2, 1);
        x.attach(3, 1, MAC + 3, 0x33);
        x.attach(0, 0, MAC + 4, 0x11);
        x.tick(1);
        x.deliver(0);
        due("ADVERT's DATAGRAM and two ASKS", x.frames(), 3);
        due("INTERFACE 0 first", x.frame(1, 1), 0);
        due("then 3", x.frame(2, 1), 3);
        due("the HOST on another LINK heard nothing", x.face(2, 2), 0);
        due("the ROUTER has no ENTRY for itself", x.face(1, 3), 0);
        x.drop(0);
        x.twice(0);
        x.hurry(9);
        due("nobody hears its own ASK", x.face(0, 2), 1);
    }

    private static void oneMac() {
        says("that have the MAC, or at all, if it is TO MANY");
        Net x = settledLan(1500);
        x.echo(0, P, 0x22, 0);
        x.hurry(2);
        due("the ECHO flies to HOST 2", x.bytes(0, 0) >>> 16, MAC + 3);
        x.hurry(9);
        due("REPLY came", x.count(0, 1), 1);
        due("the ROUTER forwarded nothing", x.count(1, 5), 0);
        due("and noted nobody", x.face(1, 3), 0);
    }

    private static void lateComer() {
        says("A frame arrives at the INTERFACES of its LINK");
        Net x = routers(1);
        x.node(false);
        quietTicks(x, 9);
        x.tick(1);
        x.attach(1, 0, MAC + 9, 9);
        x.deliver(find(x, ADVERT));
        due("also at one that was told later", x.face(1, 2), 1);
    }

    // ---- 8: a tick

    private static void whenRoutersSpeak() {
        says("if NOW modulo 10 is its number modulo 10 ADVERT; if NOW modulo 6 is its number modulo 6, a DATAGRAM");
        Net x = routers(12);
        for (int now = 1; now <= 24; now++) {
            x.tick(1);
            int k = 0;
            for (int n = 0; n < 12; n++) {
                if (now % 10 == n % 10) {
                    due("tick " + now + ", ADVERT of ROUTER " + n, typeOf(x, k), ADVERT);
                    due("from", x.frame(k, 1), n);
                    k++;
                }
                if (now == 1 || now % 6 == n % 6) {
                    due("tick " + now + ", DATAGRAM of ROUTER " + n, typeOf(x, k), DATAGRAM);
                    due("from", x.frame(k, 1), n);
                    k++;
                }
            }
            due("tick " + now + ", frames", x.frames(), k);
            dropAll(x);
        }
    }

    private static void hostsSayNothing() {
        says("then a HOST: .. a ROUTER: ..");
        Net x = new Net();
        x.node(false);
        x.node(false);
        x.link(P, 1500);
        x.attach(0, 0, MAC + 1, 1);
        x.attach(1, 0, MAC + 2, 2);
        x.tick(40);
        due("HOSTS send no ADVERT and no DATAGRAM", x.world(4), 0);
        due("and stay ABSENT", x.face(0, 2), 0);
    }

    /** At tick 31 ROUTER 1 asks again, gives up FRAGMENTS, says ADVERT and DATAGRAM; HOST 0 asks again ahead of it. */
    private static void orderInTick() {
        says("each NODE, by numbers: its INTERFACES, their ENTRIES in order; then its FRAGMENTS; ADVERT; ROUTES; DATAGRAM");
        Net x = settledLan(1280);
        busyTicks(x, 20);
        x.echo(1, P, 0x11, 0);
        x.hurry(9);
        x.echo(0, P, 1, 0);
        x.hurry(9);
        x.tick(1);
        dropAll(x);
        x.echo(0, P, 1, 1300);
        x.deliver(0);
        dropAll(x);
        due("ROUTER 1 puts one together", x.count(1, 6), 1);
        quietTicks(x, 30);
        x.echo(1, P, 0x77, 0);
        x.echo(0, P, 0x88, 0);
        x.message(0, 2, 0, 0);
        dropAll(x);
        int waiting = x.world(6);
        due("waiting", waiting, 2);
        x.tick(1);
        int[] faces = {0, 0, 1, 1, 1, 1};
        int[] types = {ASK, ASK, ASK, OUT_OF_TIME, ADVERT, DATAGRAM};
        due("frames", x.frames(), types.length);
        for (int k = 0; k < types.length; k++) {
            due("TYPE of frame " + k, typeOf(x, k), types[k]);
            due("INTERFACE of frame " + k, x.frame(k, 1), faces[k]);
        }
        due("HOST 0 asks for 88 again", x.bytes(0, 70), 0x88);
        due("then for HOST 2, to which a MESSAGE is due", x.bytes(1, 70), 0x22);
    }

    /** HOST 2 at tick 21: ENTRIES, FRAGMENTS, then MESSAGES by the other HOST's number. */
    private static void orderInHost() {
        says("then its FRAGMENTS; then a HOST: MESSAGES by the other HOST's number");
        Net x = settledLan(1280);
        x.node(false);
        x.attach(3, 0, MAC + 9, 0x33);
        busyTicks(x, 15);
        due("HOST 3 has its ADDRESS", x.face(3, 2), 2);
        x.echo(2, P, 0x11, 0);
        x.echo(2, P, 0x33, 0);
        x.hurry(20);
        x.echo(0, P, 0x22, 1300);
        x.deliver(0);
        dropAll(x);
        due("HOST 2 puts one together", x.count(2, 6), 1);
        quietTicks(x, 24);
        x.echo(2, P, 0x99, 0);
        dropAll(x);
        x.message(2, 3, 0, 0);
        x.message(2, 0, 0, 0);
        x.tick(1);
        keepFrom(x, 2);
        due("frames", x.frames(), 4);
        due("ASK again", typeOf(x, 0), ASK);
        due("OUT OF TIME", typeOf(x, 1), OUT_OF_TIME);
        due("MESSAGE to 0", x.bytes(2, 54) >>> 48, 0x0120);
        due("MESSAGE to 3", x.bytes(3, 54) >>> 48, 0x0123);
    }

    private static void assignedAheadOfMessages() {
        says("then a HOST: TRYING, its ROUTERS and ON LINK (gone at UNTIL), MESSAGES");
        Net x = lan(1500);
        x.tick(1);
        x.hurry(9);
        x.tick(1);
        x.message(0, 2, 0, 0);
        due("TRYING", x.face(0, 2), 1);
        x.tick(1);
        due("ASSIGNED ahead of the MESSAGE", x.world(5), 0);
        due("so it is asked for", countOf(x, ASK), 1);
    }

    private static void goneAheadOfMessages() {
        says("then a HOST: TRYING, its ROUTERS and ON LINK (gone at UNTIL), MESSAGES");
        Net x = settledLan(1500);
        quietTicks(x, 39);
        Net y = x.fork();
        x.message(0, 2, 0, 0);
        x.tick(1);
        due("ON LINK at 40", x.world(5), 0);
        quietTicks(y, 40);
        y.message(0, 2, 0, 0);
        y.tick(1);
        due("gone at 41 ahead of the MESSAGE", y.world(5), 1);
    }

    /** The ROUTER's ENTRY ends at tick 11, in which a MESSAGE by it is due. */
    private static void entriesAheadOfMessages() {
        says("their ENTRIES in order; .. then a HOST: .. MESSAGES");
        Net x = twoLinks(1500, 1500);
        x.echo(0, Q, 0x22, 0);
        dropAll(x);
        quietTicks(x, 9);
        Net y = x.fork();
        x.message(0, 2, 0, 0);
        x.tick(1);
        due("the ROUTER is there at 10", x.world(5), 0);
        due("the MESSAGE flies", countOf(x, MESSAGES), 1);
        quietTicks(y, 10);
        y.message(0, 2, 0, 0);
        y.tick(1);
        due("the ROUTER went", y.count(0, 7), 0);
        due("ahead of the MESSAGE", y.world(5), 1);
    }

    private static void keepFrom(Net x, int face) {
        for (int k = x.frames() - 1; k >= 0; k--) {
            if (x.frame(k, 1) != face) {
                x.drop(k);
            }
        }
    }

    private static void facesByNumbers() {
        says("its INTERFACES by numbers, their ENTRIES in order; ADVERT on each of its LINKS");
        Net x = new Net();
        x.node(true);
        x.link(P, 1500);
        x.link(Q, 1500);
        x.attach(0, 1, MAC + 1, 1);
        x.attach(0, 0, MAC + 2, 1);
        quietTicks(x, 9);
        x.echo(0, P, 7, 0);
        x.echo(0, Q, 8, 0);
        x.echo(0, Q, 6, 0);
        dropAll(x);
        x.tick(1);
        int[] faces = {0, 0, 1, 0, 1};
        int[] types = {ASK, ASK, ASK, ADVERT, ADVERT};
        due("frames", x.frames(), 5);
        for (int k = 0; k < 5; k++) {
            due("TYPE of frame " + k, typeOf(x, k), types[k]);
            due("INTERFACE of frame " + k, x.frame(k, 1), faces[k]);
        }
        due("first made first", x.bytes(0, 70), 8);
        due("then the other", x.bytes(1, 70), 6);
        due("INTERFACE 1's", x.bytes(2, 70), 7);
    }

    public static void main(String[] args) {
        oneMoreIsLost();
        partlyLost();
        cutIsNone();
        vanishing();
        vanishFirst();
        rowOrder();
        cutLinkLosesItsFrames();
        checksums();
        oddChecksum();
        checksumOfCut();
        echoBody();
        groups();
        arrivalOrder();
        oneMac();
        lateComer();
        whenRoutersSpeak();
        hostsSayNothing();
        orderInTick();
        orderInHost();
        assignedAheadOfMessages();
        goneAheadOfMessages();
        entriesAheadOfMessages();
        facesByNumbers();
        end();
    }
}
