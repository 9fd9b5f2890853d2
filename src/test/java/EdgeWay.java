/** Edges of the document's part 6: MTUS that a NODE knows, cutting, and putting together. */
public final class EdgeWay extends Checks {
    // ---- MTUS

    /** HOST 0 learns that the way to Q:low takes 1280. */
    private static void learn(Net x, long low) {
        x.echo(0, Q, low, 1300);
        x.deliver(x.frames() - 1);
        x.deliver(find(x, TOO_BIG));
        due("MTU for " + Long.toHexString(low), x.mtu(0, Q, low), 1280);
    }

    /** Two LINKS of 1500 and 1280; the ROUTER knows HOST 0. */
    private static Net narrow() {
        Net x = twoLinks(1500, 1280);
        x.echo(0, P, 1, 0);
        x.hurry(9);
        return x;
    }

    private static void thirteenth() {
        says("MTUS (12 at most; one more takes the place of that with the least UNTIL, the first of such)");
        Net x = narrow();
        for (int i = 0; i < 12; i++) {
            learn(x, 0x100 + i);
        }
        for (int i = 0; i < 12; i++) {
            due("12 are known", x.mtu(0, Q, 0x100 + i), 1280);
        }
        x.tick(1);
        dropAll(x);
        learn(x, 0x200);
        due("the first of those with the least UNTIL went", x.mtu(0, Q, 0x100), 0);
        due("the second stays", x.mtu(0, Q, 0x101), 1280);
        learn(x, 0x201);
        due("then the second", x.mtu(0, Q, 0x101), 0);
        due("the new one stays", x.mtu(0, Q, 0x200), 1280);
        due("the third stays", x.mtu(0, Q, 0x102), 1280);
    }

    private static void takesItsPlace() {
        says("one more takes the place of that with the least UNTIL, the first of such");
        Net x = narrow();
        for (int i = 0; i < 12; i++) {
            learn(x, 0x100 + i);
        }
        learn(x, 0x200);
        due("all of one tick: the first went", x.mtu(0, Q, 0x100), 0);
        learn(x, 0x201);
        due("who took its place is the first now", x.mtu(0, Q, 0x200), 0);
        due("the second stays", x.mtu(0, Q, 0x101), 1280);
    }

    private static void leastUntilIsLast() {
        says("that with the least UNTIL");
        Net x = narrow();
        for (int i = 0; i < 12; i++) {
            learn(x, 0x100 + i);
        }
        x.tick(1);
        dropAll(x);
        for (int i = 0; i < 11; i++) {
            learn(x, 0x200 + i);
        }
        due("the last of the old ones", x.mtu(0, Q, 0x10B), 1280);
        due("the last but one went", x.mtu(0, Q, 0x10A), 0);
        x.tick(1);
        dropAll(x);
        learn(x, 0x300);
        due("the last has the least", x.mtu(0, Q, 0x10B), 0);
        for (int i = 0; i < 11; i++) {
            due("others stay", x.mtu(0, Q, 0x200 + i), 1280);
        }
        learn(x, 0x301);
        due("now the first has", x.mtu(0, Q, 0x200), 0);
        due("the second stays", x.mtu(0, Q, 0x201), 1280);
    }

    private static void mtuEnds() {
        says("UNTIL NOW + 60 then; at UNTIL it goes");
        Net x = narrow();
        learn(x, 0x22);
        x.tick(2);
        learn(x, 0x23);
        quietTicks(x, 62);
        due("NOW + 59", x.mtu(0, Q, 0x22), 1280);
        quietTicks(x, 63);
        due("NOW + 60", x.mtu(0, Q, 0x22), 0);
        due("the other one", x.mtu(0, Q, 0x23), 1280);
        quietTicks(x, 64);
        due("the other one", x.mtu(0, Q, 0x23), 1280);
        quietTicks(x, 65);
        due("the other one", x.mtu(0, Q, 0x23), 0);
    }

    /** What is behind the one that goes keeps its ADDRESS and its MTU. */
    private static void firstOfTwoEnds() {
        says("at UNTIL it goes");
        Net x = narrowing(1500, 1400, 1300);
        x.echo(0, Q, 0x33, 1452);
        x.hurry(9);
        due("1400", x.mtu(0, Q, 0x33), 1400);
        x.tick(1);
        dropAll(x);
        x.echo(0, R, 0x33, 1452);
        x.hurry(9);
        x.echo(0, R, 0x33, 1352);
        x.hurry(9);
        due("1300", x.mtu(0, R, 0x33), 1300);
        quietTicks(x, 63);
        due("both", x.mtu(0, Q, 0x33) + x.mtu(0, R, 0x33), 2700);
        quietTicks(x, 64);
        due("the first went", x.mtu(0, Q, 0x33), 0);
        due("the second is as it was", x.mtu(0, R, 0x33), 1300);
        quietTicks(x, 65);
        due("the second went", x.mtu(0, R, 0x33), 0);
    }

    private static void belowGreatest() {
        says("without one for this ADDRESS it is made, if n is below 1500");
        Net x = twoLinks(1500, 1499);
        x.echo(0, Q, 0x22, 1452);
        x.hurry(9);
        due("TOO BIG", x.count(0, 4), 1);
        due("1499", x.mtu(0, Q, 0x22), 1499);
        due("for this ADDRESS alone", x.mtu(0, Q, 0x23), 0);
        due("not for others with its LOW", x.mtu(0, R, 0x22), 0);
        due("for this NODE alone", x.mtu(1, Q, 0x22), 0);
    }

    /** HOST 0, LINK of 1500, ROUTER 1, LINK of 1400, ROUTER 2, LINK of 1300, HOST 3 with R:33. */
    private static Net narrowing(int first, int second, int third) {
        Net x = new Net();
        x.node(false);
        x.node(true);
        x.node(true);
        x.node(false);
        x.link(P, first);
        x.link(Q, second);
        x.link(R, third);
        x.attach(0, 0, MAC + 1, 0x11);
        x.attach(1, 0, MAC + 2, 1);
        x.attach(1, 1, MAC + 3, 1);
        x.attach(2, 1, MAC + 4, 2);
        x.attach(2, 2, MAC + 5, 1);
        x.attach(3, 2, MAC + 6, 0x33);
        busyTicks(x, 4);
        x.echo(0, R, 0x33, 0);
        x.hurry(30);
        due("REPLY", x.count(0, 1), 1);
        return x;
    }

    private static void lessOnly() {
        says("else it becomes n, if that is less: UNTIL NOW + 60 then");
        Net x = narrowing(1500, 1400, 1300);
        x.echo(0, R, 0x33, 1452);
        x.hurry(1);
        due("TOO BIG flies", typeOf(x, 0), TOO_BIG);
        x.twice(0);
        x.twice(0);
        x.deliver(0);
        due("1400", x.mtu(0, R, 0x33), 1400);
        x.tick(1);
        x.echo(0, R, 0x33, 1352);
        due("1400 bytes fly whole", x.frame(x.frames() - 1, 3), 1414);
        x.deliver(x.frames() - 1);
        x.deliver(x.frames() - 1);
        int narrower = x.frames() - 1;
        due("ROUTER 2 says TOO BIG", x.bytes(narrower, 58) >>> 32, 1300);
        x.twice(narrower);
        x.deliver(narrower);
        x.deliver(x.frames() - 1);
        due("1300", x.mtu(0, R, 0x33), 1300);
        x.deliver(0);
        due("a greater one is nothing", x.mtu(0, R, 0x33), 1300);
        due("TOO BIG are counted", x.count(0, 4), 3);
        x.tick(1);
        due("NOW", x.world(0), 6);
        x.deliver(0);
        due("a greater one is nothing", x.mtu(0, R, 0x33), 1300);
        quietTicks(x, 64);
        due("UNTIL by the latest that was less", x.mtu(0, R, 0x33), 1300);
        quietTicks(x, 65);
        due("and no longer", x.mtu(0, R, 0x33), 0);
    }

    private static void equalIsNothing() {
        says("else it becomes n, if that is less: UNTIL NOW + 60 then");
        Net x = narrow();
        x.echo(0, Q, 0x22, 1300);
        x.hurry(1);
        x.twice(0);
        x.deliver(0);
        due("1280", x.mtu(0, Q, 0x22), 1280);
        x.tick(3);
        x.deliver(0);
        due("TOO BIG came twice", x.count(0, 4), 2);
        quietTicks(x, 62);
        due("UNTIL by the first", x.mtu(0, Q, 0x22), 1280);
        quietTicks(x, 63);
        due("UNTIL by the first", x.mtu(0, Q, 0x22), 0);
    }

    // ---- cutting

    private static void sizes() {
        says("parts of (MTU - 48) by 8, rounded down, times 8 bytes, the last one what is left");
        int[] mtus = {1280, 1287, 1288, 1295, 1296, 1500};
        int[] parts = {1232, 1232, 1240, 1240, 1248, 1448};
        for (int i = 0; i < mtus.length; i++) {
            Net x = settledLan(mtus[i]);
            x.echo(0, Q, 1, 2 * parts[i] - 8);
            due("two whole ones at " + mtus[i], x.frames(), 2);
            dueFragment(x, 0, parts[i], 0, 1, 1);
            dueFragment(x, 1, parts[i], parts[i], 0, 1);
            dropAll(x);
            x.echo(0, Q, 1, 2 * parts[i] - 7);
            due("and one byte more", x.frames(), 3);
            dueFragment(x, 0, parts[i], 0, 1, 2);
            dueFragment(x, 1, parts[i], parts[i], 1, 2);
            dueFragment(x, 2, 1, 2 * parts[i], 0, 2);
        }
    }

    private static void dueFragment(Net x, int k, int size, int offset, int more, int number) {
        due("NEXT", byteOf(x, k, 20), 44);
        due("bytes behind the first 40", x.bytes(k, 18) >>> 48, 8 + size);
        due("bytes", x.frame(k, 3), 14 + 48 + size);
        due("NEXT of what was cut, 0, offset and 1 if more come", x.bytes(k, 54) >>> 32, 58L << 24 | offset + more);
        due("number", x.bytes(k, 58) >>> 32, number);
    }

    private static void knownMtu() {
        says("the MTU (the LINK's on which it goes, or what is known for the ADDRESS, if that is less)");
        Net x = narrow();
        learn(x, 0x22);
        x.echo(0, Q, 0x22, 1232);
        due("as long as is known", typeOf(x, x.frames() - 1), ECHO);
        dropAll(x);
        x.echo(0, Q, 0x22, 1233);
        due("one byte more is cut", x.frames(), 2);
        dueFragment(x, 0, 1232, 0, 1, 1);
        dropAll(x);
        x.echo(0, Q, 0x23, 1233);
        due("another ADDRESS is not", x.frames(), 1);
    }

    /** ROUTER 1 learnt 1400 for R:33 by LINK 1; then it goes there by a LINK of 1300 itself. */
    private static void linkIsLess() {
        says("the MTU (the LINK's on which it goes, or what is known for the ADDRESS, if that is less)");
        Net x = narrowing(1500, 1500, 1400);
        x.echo(0, R, 0x33, 1452);
        x.hurry(9);
        due("known", x.mtu(0, R, 0x33), 1400);
        x.echo(1, R, 0x33, 1452);
        x.hurry(9);
        due("known to the ROUTER", x.mtu(1, R, 0x33), 1400);
        dropAll(x);
        x.echo(1, R, 0x33, 1353);
        dueFragment(x, 0, 1352, 0, 1, 1);
        Net y = narrowing(1300, 1500, 1400);
        y.echo(0, R, 0x33, 1300);
        dueFragment(y, 0, 1248, 0, 1, 1);
    }

    private static void cutForUnknown() {
        says("without an ENTRY one is made, OPEN; the PACKET waits there, ASK goes out TO MANY (the GROUP)");
        Net x = settledLan(1280);
        x.echo(0, P, 0x22, 3000);
        due("one ASK for all parts", x.frames(), 1);
        due("as for any", plain(x, 0, 56), header(0x3333FF000022L, MAC + 1, 32, 58, 255) + address(P, 0x11) + MANY
            + "00000001FF000022" + "8700....00000000" + address(P, 0x22) + "0101" + of(MAC + 1, 6));
        due("three wait", x.face(0, 4), 3);
        x.hurry(2);
        dueFragment(x, 0, 1232, 0, 1, 1);
        dueFragment(x, 1, 1232, 1232, 1, 1);
        dueFragment(x, 2, 544, 2464, 0, 1);
    }

    private static void numbersOfEach() {
        says("FRAGMENTS with a number (per NODE 1, 2, ..)");
        Net x = settledLan(1280);
        x.echo(0, Q, 1, 1300);
        x.echo(0, R, 1, 10);
        x.echo(0, R, 1, 1300);
        x.echo(2, Q, 1, 1300);
        int[] faces = {0, 0, 0, 0, 0, 2, 2};
        int[] numbers = {1, 1, -1, 2, 2, 1, 1};
        due("frames", x.frames(), 7);
        for (int k = 0; k < 7; k++) {
            due("INTERFACE", x.frame(k, 1), faces[k]);
            if (numbers[k] > 0) {
                due("number", x.bytes(k, 58) >>> 32, numbers[k]);
            }
        }
        Net y = lan(1280);
        y.echo(0, Q, 1, 1300);
        y.tick(1);
        y.hurry(9);
        y.tick(2);
        y.echo(0, Q, 1, 1300);
        due("one that is LOST without an ADDRESS takes no number", y.bytes(0, 58) >>> 32, 1);
    }

    // ---- putting together

    /** HOST 0 and HOST 2 on a LINK of 1280 know one another; at tick 3. */
    private static Net acquainted() {
        Net x = settledLan(1280);
        x.echo(0, P, 0x22, 0);
        x.hurry(9);
        due("REPLY", x.count(0, 1), 1);
        return x;
    }

    private static void anyOrder() {
        says("When all are there they are the PACKET, whole");
        int[][] orders = {{0, 0, 0}, {0, 1, 0}, {1, 0, 0}, {1, 1, 0}, {2, 0, 0}, {2, 1, 0}};
        for (int[] order : orders) {
            Net x = acquainted();
            x.echo(0, P, 0x22, 2500);
            due("parts", x.frames(), 3);
            x.deliver(order[0]);
            due("puts together", x.count(2, 6), 1);
            x.deliver(order[1]);
            due("not yet", x.count(2, 6), 1);
            due("frames", x.frames(), 1);
            x.deliver(order[2]);
            due("whole", x.count(2, 6), 0);
            due("the REPLY is cut", x.frames(), 3);
            x.hurry(9);
            due("REPLY", x.count(0, 1), 2);
        }
    }

    private static void sameTwice() {
        says("When all are there they are the PACKET, whole");
        Net x = acquainted();
        x.echo(0, P, 0x22, 2500);
        x.twice(0);
        x.twice(0);
        x.deliver(0);
        x.deliver(2);
        x.deliver(2);
        due("the first part three times", x.count(2, 6), 1);
        x.deliver(1);
        due("the last", x.count(2, 6), 1);
        x.twice(0);
        x.deliver(0);
        due("whole", x.count(2, 6), 0);
        due("the other second part and the REPLY's", x.frames(), 4);
        x.deliver(0);
        due("it begins another one", x.count(2, 6), 1);
    }

    private static void byFromAndNumber() {
        says("Each NODE puts FRAGMENTS for it together by ADDRESS from and number");
        Net x = acquainted();
        x.echo(1, P, 0x11, 0);
        x.echo(1, P, 0x22, 0);
        x.hurry(20);
        x.echo(0, P, 1, 0);
        x.echo(2, P, 1, 0);
        x.hurry(20);
        x.echo(0, P, 1, 1300);
        x.echo(2, P, 1, 1300);
        due("both have number 1", x.bytes(0, 58) >>> 32 & x.bytes(2, 58) >>> 32, 1);
        x.deliver(0);
        x.deliver(2);
        due("the first of one, the last of the other: two", x.count(1, 6), 2);
        x.deliver(0);
        due("one is whole", x.count(1, 6), 1);
        x.deliver(0);
        due("both are whole", x.count(1, 6), 0);
        x.hurry(20);
        due("REPLIES", x.count(0, 1) + x.count(2, 1), 5);
    }

    /** So many ECHOES of two parts from HOST 0, of which the first parts alone arrive; the others lie in flight in order. */
    private static Net firstParts(int count) {
        Net x = acquainted();
        for (int i = 0; i < count; i++) {
            x.echo(0, P, 0x22, 1300);
            x.deliver(i);
        }
        return x;
    }

    private static void fifth() {
        says("4 at a time (a FRAGMENT of a fifth is LOST)");
        Net x = firstParts(4);
        due("four", x.count(2, 6), 4);
        due("LOST", x.world(5), 0);
        x.echo(0, P, 0x22, 1300);
        x.deliver(4);
        due("no fifth", x.count(2, 6), 4);
        due("LOST", x.world(5), 1);
        x.deliver(4);
        due("its other part is LOST, too", x.world(5), 2);
        x.deliver(0);
        due("one of the four becomes whole", x.count(2, 6), 3);
        due("LOST", x.world(5), 2);
        x.echo(0, P, 0x22, 1300);
        int first = x.frames() - 2;
        x.deliver(first);
        due("room again", x.count(2, 6), 4);
        due("LOST", x.world(5), 2);
        due("another NODE has its own", x.count(1, 6), 0);
    }

    private static void begunBehindWhole() {
        says("4 at a time; When all are there they are the PACKET, whole");
        Net x = firstParts(3);
        x.deliver(0);
        due("the first is whole", x.count(2, 6), 2);
        x.drop(x.frames() - 1);
        x.drop(x.frames() - 1);
        due("two parts fly", x.frames(), 2);
        x.echo(0, P, 0x22, 1300);
        x.deliver(2);
        due("a fourth is begun", x.count(2, 6), 3);
        for (int left = 2; left >= 0; left--) {
            x.deliver(0);
            due("whole", x.count(2, 6), left);
        }
        due("each with a REPLY of two parts", x.frames(), 6);
    }

    private static void tenTicks() {
        says("UNTIL 10 ticks from the first one's coming; then they go, and, if the first part is there, OUT OF TIME 1 goes");
        Net x = acquainted();
        x.echo(0, P, 0x22, 2500);
        x.deliver(0);
        x.tick(5);
        x.deliver(find(x, FRAGMENT));
        dropAll(x);
        busyTicks(x, 12);
        due("9 ticks", x.count(2, 6), 1);
        due("HOST 0 is told nothing", x.count(0, 3), 0);
        x.tick(1);
        due("10 ticks, whatever came later", x.count(2, 6), 0);
        due("OUT OF TIME 1", x.bytes(find(x, OUT_OF_TIME), 54) >>> 48, 0x0301);
        due("one", countOf(x, OUT_OF_TIME), 1);
        x.deliver(find(x, OUT_OF_TIME));
        due("counted", x.count(0, 3), 1);
    }

    private static void withoutFirst() {
        says("if the first part is there");
        Net x = acquainted();
        x.echo(0, P, 0x22, 2500);
        x.deliver(1);
        x.deliver(1);
        dropAll(x);
        busyTicks(x, 12);
        due("9 ticks", x.count(2, 6), 1);
        x.tick(1);
        due("10 ticks", x.count(2, 6), 0);
        due("no OUT OF TIME", countOf(x, OUT_OF_TIME), 0);
        due("LOST", x.world(5), 0);
    }

    /** The place of those that went is used again; what the first of them had must not be seen. */
    private static void placeUsedAgain() {
        says("if the first part is there");
        Net x = acquainted();
        x.echo(0, P, 0x22, 2500);
        x.deliver(0);
        dropAll(x);
        busyTicks(x, 13);
        due("gone", x.count(2, 6), 0);
        x.echo(0, P, 0x22, 2500);
        x.deliver(2);
        dropAll(x);
        due("one more", x.count(2, 6), 1);
        busyTicks(x, 22);
        x.tick(1);
        due("gone", x.count(2, 6), 0);
        due("no OUT OF TIME", countOf(x, OUT_OF_TIME), 0);
        x.echo(0, P, 0x22, 2500);
        x.deliver(find(x, FRAGMENT));
        dropType(x, FRAGMENT);
        due("not whole by what was there before", x.count(2, 6), 1);
    }

    private static void inOrderOfComing() {
        says("then its FRAGMENTS, in the order of their coming");
        Net x = acquainted();
        for (int i = 0; i < 3; i++) {
            x.echo(0, P, 0x22, 1300 + i);
        }
        x.deliver(4);
        x.deliver(0);
        x.deliver(1);
        due("three", x.count(2, 6), 3);
        dropAll(x);
        busyTicks(x, 12);
        x.tick(1);
        keepType(x, OUT_OF_TIME);
        due("three", x.frames(), 3);
        long[] numbers = {3, 1, 2};
        for (int k = 0; k < 3; k++) {
            due("number", x.bytes(k, 14 + 48 + 44) >>> 32, numbers[k]);
        }
    }

    private static void someAtOnce() {
        says("UNTIL 10 ticks from the first one's coming; then they go");
        Net x = acquainted();
        for (int i = 0; i < 4; i++) {
            x.echo(0, P, 0x22, 1300);
            x.deliver(0);
            dropAll(x);
            if (i != 1) {
                x.tick(1);
                dropAll(x);
            }
        }
        due("NOW", x.world(0), 6);
        due("four", x.count(2, 6), 4);
        quietTicks(x, 12);
        due("four", x.count(2, 6), 4);
        quietTicks(x, 13);
        due("the first went", x.count(2, 6), 3);
        quietTicks(x, 14);
        due("two of tick 4", x.count(2, 6), 1);
        quietTicks(x, 15);
        due("the last", x.count(2, 6), 0);
    }

    /** The first part comes by ROUTERS 1 and 2, or by ROUTER 1 alone, as that is on the last LINK from then on. */
    private static void latestFirstPart() {
        says("about that part's PACKET as it came (the latest such)");
        Net x = narrowing(1280, 1280, 1280);
        x.echo(0, R, 0x33, 1300);
        x.twice(0);
        x.drop(1);
        x.deliver(0);
        x.deliver(1);
        x.deliver(1);
        due("HOST 3 puts together", x.count(3, 6), 1);
        Net y = x.fork();
        dropAll(y);
        busyTicks(y, 13);
        y.tick(1);
        due("as it came: HOPS 62", byteOf(y, find(y, OUT_OF_TIME), 14 + 48 + 7), 62);
        x.attach(1, 2, MAC + 9, 9);
        x.deliver(0);
        x.deliver(find(x, ASK));
        x.deliver(find(x, TELL));
        due("the copy flies to HOST 3", x.bytes(find(x, FRAGMENT), 0) >>> 16, MAC + 6);
        x.deliver(find(x, FRAGMENT));
        due("one all the same", x.count(3, 6), 1);
        dropAll(x);
        busyTicks(x, 13);
        x.tick(1);
        due("the latest: HOPS 63", byteOf(x, find(x, OUT_OF_TIME), 14 + 48 + 7), 63);
    }

    private static void forwardedAsTheyAre() {
        says("Each NODE puts FRAGMENTS for it together");
        Net x = twoLinks(1280, 1280);
        x.own(1, R, 48);
        x.echo(0, Q, 0x22, 0);
        x.hurry(20);
        x.echo(0, Q, 0x22, 1300);
        String first = packet(x, 0);
        x.hurry(1);
        due("a ROUTER doesn't put together what is for others", x.count(1, 6), 0);
        due("but for HOPS it is as it was", packet(x, 1), first.replaceFirst("2C40", "2C3F"));
        dropAll(x);
        x.echo(0, R, 5, 1300);
        x.hurry(1);
        due("for an OWN PREFIX it does", x.count(1, 6), 1);
        x.hurry(20);
        due("and answers", x.count(0, 1), 2);
    }

    public static void main(String[] args) {
        thirteenth();
        takesItsPlace();
        leastUntilIsLast();
        mtuEnds();
        firstOfTwoEnds();
        belowGreatest();
        lessOnly();
        equalIsNothing();
        sizes();
        knownMtu();
        linkIsLess();
        cutForUnknown();
        numbersOfEach();
        anyOrder();
        sameTwice();
        byFromAndNumber();
        fifth();
        begunBehindWhole();
        tenTicks();
        withoutFirst();
        placeUsedAgain();
        inOrderOfComing();
        someAtOnce();
        latestFirstPart();
        forwardedAsTheyAre();
        end();
    }
}
