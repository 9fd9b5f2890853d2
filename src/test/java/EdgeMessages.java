/** Edges of the document's part 7: when MESSAGES are sent, HEARD and answered. */
public final class EdgeMessages extends Checks {
    /** HOSTS 0 and 2 of a settled lan know one another; at tick 3, nothing in flight. */
    private static Net acquainted() {
        Net x = settledLan(1500);
        x.echo(0, P, 0x22, 0);
        x.hurry(9);
        return x;
    }

    private static void dueTalk(Net x, int a, int b, int... want) {
        for (int what = 0; what < 4; what++) {
            taken(x, "sent(" + a + ", " + b + ", " + what + ")", x.sent(a, b, what), want[what]);
        }
    }

    // ---- when

    private static void whenSent() {
        says("sent when it is DUE: NOW + 1 at first; then 4, 8, 16, 32, 32, .. ticks behind each sending");
        Net x = acquainted();
        dueTalk(x, 0, 2, 0, 0, 0, 0);
        x.message(0, 2, 0, 0);
        due("nothing flies yet", x.frames(), 0);
        int due = 4;
        int[] pauses = {4, 8, 16, 32, 32, 32};
        for (int i = 0; i < pauses.length; i++) {
            dueTalk(x, 0, 2, 1, 0, due, pauses[i]);
            while (x.world(0) < due - 1) {
                x.tick(1);
                due("not ahead of DUE", countOf(x, MESSAGES), 0);
                dropType(x, MESSAGES);
                x.hurry(50);
            }
            dueTalk(x, 0, 2, 1, 0, due, pauses[i]);
            x.tick(1);
            due("at DUE", countOf(x, MESSAGES), 1);
            dropType(x, MESSAGES);
            x.hurry(50);
            due += pauses[i];
        }
        dueTalk(x, 0, 2, 1, 0, due, 32);
    }

    private static void nextIsDue() {
        says("NOW + 1 at first (as it is told, or as the one ahead of it is answered)");
        Net x = acquainted();
        x.message(0, 2, 0, 0);
        x.tick(1);
        dropType(x, MESSAGES);
        dueTalk(x, 0, 2, 1, 0, 8, 8);
        x.message(0, 2, 1, 1);
        dueTalk(x, 0, 2, 2, 0, 8, 8);
        busyTicks(x, 7);
        due("one alone is sent at a time", x.heard(0, 2), 0);
        busyTicks(x, 8);
        due("HEARD", x.heard(0, 2), 1);
        dueTalk(x, 0, 2, 2, 1, 9, 4);
        x.tick(1);
        due("the second flies", x.bytes(find(x, MESSAGES), 58) >>> 32, 1);
        dueTalk(x, 0, 2, 2, 1, 13, 8);
        x.hurry(50);
        dueTalk(x, 0, 2, 2, 2, 0, 0);
        x.tick(2);
        x.message(0, 2, 0, 0);
        dueTalk(x, 0, 2, 3, 2, 12, 4);
    }

    private static void toldInSameTick() {
        says("NOW + 1 at first");
        Net x = acquainted();
        due("number", x.message(0, 2, 0, 0), 0);
        due("number", x.message(0, 2, 0, 0), 1);
        due("number the other way", x.message(2, 0, 0, 0), 0);
        dueTalk(x, 0, 2, 2, 0, 4, 4);
        dueTalk(x, 2, 0, 1, 0, 4, 4);
        x.tick(1);
        due("one each way", countOf(x, MESSAGES), 2);
        x.hurry(50);
        due("HEARD", x.heard(0, 2) + x.heard(2, 0), 2);
        x.tick(1);
        due("then the second", countOf(x, MESSAGES), 1);
    }

    private static void lostOnes() {
        says("(LOST if it has no INTERFACE)");
        Net x = settledLan(1500);
        x.node(false);
        x.message(0, 3, 0, 0);
        x.tick(1);
        due("the other one has none", x.world(5), 1);
        dueTalk(x, 0, 3, 1, 0, 8, 8);
        due("nothing flies", countOf(x, MESSAGES) + countOf(x, ASK), 0);
        x.attach(3, 0, MAC + 9, 0x33);
        busyTicks(x, 7);
        due("LOST", x.world(5), 1);
        x.tick(1);
        due("now it goes", countOf(x, ASK), 1);
        due("LOST", x.world(5), 1);
        Net y = settledLan(1500);
        y.node(false);
        y.message(3, 0, 0, 0);
        y.tick(1);
        due("who sends has none", y.world(5), 1);
        dueTalk(y, 3, 0, 1, 0, 8, 8);
        Net z = new Net();
        z.node(false);
        z.node(false);
        z.message(0, 1, 0, 0);
        z.tick(1);
        due("neither has one: LOST once", z.world(5), 1);
    }

    private static void goesThere() {
        says("They go to the ADDRESS of the PREFIX of the other one's LINK and its ID");
        Net x = twoLinks(1500, 1500);
        x.message(0, 2, 0, 0);
        x.tick(1);
        due("HIGH", x.bytes(0, 38), Q);
        due("LOW", x.bytes(0, 46), 0x22);
        Net y = settledLan(1500);
        y.node(false);
        y.attach(3, 0, MAC + 9, 0x33);
        y.message(0, 3, 0, 0);
        y.tick(1);
        due("also while that is ABSENT", y.entry(0, 1, 1), 0x33);
    }

    // ---- HEARD and answered

    private static void heardOnce() {
        says("MESSAGE with the number that is next: HEARD; with that or a lesser one: ANSWER with its number goes");
        Net x = acquainted();
        x.message(0, 2, 5, 5);
        x.message(0, 2, 6, 6);
        x.tick(1);
        int k = find(x, MESSAGES);
        x.twice(k);
        x.twice(k);
        x.deliver(k);
        due("HEARD", x.heard(0, 2), 1);
        due("ANSWER 0", x.bytes(x.frames() - 1, 54) >>> 48, 0x0220);
        due("number", x.bytes(x.frames() - 1, 58) >>> 32, 0);
        x.drop(x.frames() - 1);
        x.deliver(k);
        due("HEARD once", x.heard(0, 2), 1);
        due("ANSWER again", x.bytes(x.frames() - 1, 54) >>> 48, 0x0220);
        x.deliver(x.frames() - 1);
        due("answered", x.sent(0, 2, 1), 1);
        x.tick(1);
        x.deliver(x.frames() - 1);
        due("the next is HEARD", x.heard(0, 2), 2);
        due("number", x.bytes(x.frames() - 1, 58) >>> 32, 1);
        int old = find(x, MESSAGES);
        due("an old MESSAGE is there yet", x.bytes(old, 54) >>> 48, 0x0102);
        x.deliver(old);
        due("HEARD as before", x.heard(0, 2), 2);
        due("ANSWER to a lesser one", x.bytes(x.frames() - 1, 54) >>> 48, 0x0220);
        due("with its number", x.bytes(x.frames() - 1, 58) >>> 32, 0);
        due("length", x.got(0, 2, 0, 0), 5);
        due("length", x.got(0, 2, 1, 0), 6);
    }

    private static void answeredOnce() {
        says("ANSWER with the number of the first that was not answered: it is answered");
        Net x = acquainted();
        x.message(0, 2, 0, 0);
        x.message(0, 2, 0, 0);
        x.message(0, 2, 0, 0);
        x.tick(1);
        x.deliver(0);
        due("ANSWER flies", x.bytes(0, 54) >>> 48, 0x0220);
        x.twice(0);
        x.deliver(0);
        dueTalk(x, 0, 2, 3, 1, 5, 4);
        x.twice(0);
        x.deliver(0);
        dueTalk(x, 0, 2, 3, 1, 5, 4);
        x.tick(1);
        dueTalk(x, 0, 2, 3, 1, 9, 8);
        x.deliver(0);
        due("an old ANSWER, as the next was sent", x.sent(0, 2, 1), 1);
        dueTalk(x, 0, 2, 3, 1, 9, 8);
    }

    private static void answerLost() {
        says("MESSAGE with that or a lesser one: ANSWER with its number goes to who sent it");
        Net x = acquainted();
        x.message(0, 2, 9, 9);
        x.tick(1);
        x.deliver(0);
        dropAll(x);
        due("HEARD, not answered", x.heard(0, 2) * 10 + x.sent(0, 2, 1), 10);
        busyTicks(x, 8);
        due("sent again, HEARD once", x.heard(0, 2), 1);
        due("answered", x.sent(0, 2, 1), 1);
    }

    /** HOSTS 0 and 2 both have P:7; what HOST 3 sends to the one comes to the other. */
    private static void forAnother() {
        says("What comes for another NODE than this is nothing");
        Net x = new Net();
        x.node(false);
        x.node(true);
        x.node(false);
        x.node(false);
        x.link(P, 1500);
        x.attach(0, 0, MAC + 1, 7);
        x.attach(1, 0, MAC + 2, 1);
        x.attach(2, 0, MAC + 3, 7);
        x.attach(3, 0, MAC + 4, 9);
        x.tick(1);
        x.deliver(0);
        dropAll(x);
        x.tick(2);
        x.message(3, 0, 4, 0);
        x.message(3, 2, 5, 0);
        x.tick(1);
        x.deliver(0);
        due("both tell", countOf(x, TELL), 2);
        x.deliver(0);
        due("all is sent to the first that told", countOf(x, MESSAGES), 2);
        x.drop(0);
        due("the MESSAGE for 0 flies to 0", x.bytes(0, 0) >>> 16, MAC + 1);
        x.hurry(2);
        due("0 heard its own", x.heard(3, 0), 1);
        due("2 heard nothing", x.heard(3, 2), 0);
        due("0 heard nothing of 2's", x.sent(3, 0, 0), 1);
        due("one ANSWER", x.frames(), 1);
        x.hurry(1);
        due("answered", x.sent(3, 0, 1), 1);
        due("not answered", x.sent(3, 2, 1), 0);
    }

    private static void toItsOwnAddress() {
        says("What comes for another NODE than this is nothing");
        Net x = new Net();
        x.node(false);
        x.node(true);
        x.node(false);
        x.link(P, 1500);
        x.attach(0, 0, MAC + 1, 7);
        x.attach(1, 0, MAC + 2, 1);
        x.attach(2, 0, MAC + 3, 7);
        x.tick(1);
        x.deliver(0);
        dropAll(x);
        x.tick(2);
        x.message(0, 2, 1, 1);
        x.tick(1);
        due("it comes to the one who sent it", x.frames(), 0);
        due("HEARD", x.heard(0, 2), 0);
        due("LOST", x.world(5), 0);
        due("it was sent", x.sent(0, 2, 2), 8);
    }

    // ---- bodies

    private static int digest(int length, int seed) {
        int d = 7;
        for (int k = 0; k < length; k++) {
            d = d * 31 + (seed + 31 * k) % 256;
        }
        return d;
    }

    private static void bodies() {
        says("Body of a MESSAGE, byte k: (SEED + 31 * k) modulo 256; d, of 7, over its bytes: d * 31 + byte, wrapping");
        int[] lengths = {0, 1, 2, 9, 1452, 1453, 3000};
        int[] seeds = {0, 255, 128, 225, 1, 200, 255};
        Net x = acquainted();
        for (int i = 0; i < lengths.length; i++) {
            x.message(0, 2, lengths[i], seeds[i]);
        }
        busyTicks(x, 12);
        due("all HEARD", x.heard(0, 2), lengths.length);
        for (int i = 0; i < lengths.length; i++) {
            taken(x, "length", x.got(0, 2, i, 0), lengths[i]);
            taken(x, "digest", x.got(0, 2, i, 1), digest(lengths[i], seeds[i]));
        }
        due("of none", x.got(0, 2, 0, 1), 7);
        due("of FF", x.got(0, 2, 1, 1), 7 * 31 + 255);
        due("of 80 9F", x.got(0, 2, 2, 1), (7 * 31 + 128) * 31 + 159);
        Net y = acquainted();
        y.message(0, 2, 3, 225);
        y.tick(1);
        due("E1 00 1F", y.bytes(0, 62), 0xE1001F0000000000L);
    }

    /** As many as there may be at all, of one HOST to another. */
    private static void sixtyFour() {
        says("MESSAGES of a HOST to another one, numbers 0, 1, ..");
        Net x = acquainted();
        for (int i = 0; i < 64; i++) {
            due("number", x.message(0, 2, i, i), i);
        }
        busyTicks(x, 3 + 63);
        due("63 HEARD", x.heard(0, 2), 63);
        dueTalk(x, 0, 2, 64, 63, 67, 4);
        refused(x, "the 64th", x.got(0, 2, 63, 0), 2);
        busyTicks(x, 67);
        due("64 HEARD", x.heard(0, 2), 64);
        dueTalk(x, 0, 2, 64, 64, 0, 0);
        for (int i = 0; i < 64; i++) {
            due("in order", x.got(0, 2, i, 0), i);
            due("digest", x.got(0, 2, i, 1), digest(i, i));
        }
        refused(x, "a 65th", x.got(0, 2, 64, 0), 2);
        refused(x, "a 65th", x.message(0, 2, 0, 0), 5);
    }

    private static void ofEachPair() {
        says("the number that is next from that NODE");
        Net x = acquainted();
        x.node(false);
        x.attach(3, 0, MAC + 9, 0x33);
        busyTicks(x, 14);
        x.message(0, 2, 1, 0);
        x.message(3, 2, 2, 0);
        x.message(0, 3, 3, 0);
        x.message(2, 3, 4, 0);
        busyTicks(x, 15);
        due("0 to 2", x.got(0, 2, 0, 0), 1);
        due("3 to 2", x.got(3, 2, 0, 0), 2);
        due("0 to 3", x.got(0, 3, 0, 0), 3);
        due("2 to 3", x.got(2, 3, 0, 0), 4);
        due("2 to 0", x.heard(2, 0), 0);
        due("all answered", x.sent(0, 2, 1) + x.sent(3, 2, 1) + x.sent(0, 3, 1) + x.sent(2, 3, 1), 4);
    }

    public static void main(String[] args) {
        whenSent();
        nextIsDue();
        toldInSameTick();
        lostOnes();
        goesThere();
        heardOnce();
        answeredOnce();
        answerLost();
        forAnother();
        toItsOwnAddress();
        bodies();
        sixtyFour();
        ofEachPair();
        end();
    }
}
