import java.util.Arrays;

/**
 * The boundary cases of 3 MESSAGES and of promises 4, 5, 13 and 14, a test for each sentence (which
 * stands above it). What is refused, and that it changes nothing, is in RefusalsTest too.
 */
public final class EdgesOfMessagesTest {
    private static final int X = 100;
    private static final int Y = 200;
    private static final int[] FIRST_OF_20 = {0x10, 20, 1, 2, 3, 4, 5, 6};
    private static final int[] NEXT = {0x21, 7, 8, 9, 10, 11, 12, 13};
    private static final int[] LAST = {0x22, 14, 15, 16, 17, 18, 19, 20};

    private EdgesOfMessagesTest() {
    }

    public static void main(String[] args) {
        noConnections();
        connectionsAreEight();
        identifiersOfConnections();
        blocks();
        messagesOf1To400();
        ofUpToSevenOneFrame();
        theFirstFrame();
        theNumberModulo16();
        whatIsLeft();
        roomInTheBox();
        itWaitsBehindTheFirst();
        itWaitsBehindEachBlock();
        notWithZero();
        notWhenAllAreSent();
        fortyEightAndOneMoreByte();
        theLowestFourBits();
        waitsAnew();
        abortedByTheHearer();
        othersAreNothingToTheSender();
        emptyFramesAreNothing();
        answersAreNothingToOneThatDoesNotWait();
        moreThanFortyRoundsOfWaiting();
        theRoundInWhichItBeganDoesNotCount();
        offAsItSends();
        offAsItWaits();
        offAsItHasNoRoom();
        oneFrames();
        soManyBytesBehind();
        aFirstFrameHasEight();
        toldOf8To400();
        withMoreTold();
        theAnswerTellsTheBlock();
        followingOnesAsItDoesNotGather();
        theNextNumber();
        theNextNumberModulo16();
        asManyBytesAsAreDue();
        thereWhenAllAre();
        itAnswersBehindEachBlock();
        oneFrameAsItGathers();
        aFirstOneAsItGathers();
        othersAreNothingToTheHearer();
        moreThanFortyRoundsOfGathering();
        theRoundOfTheLatestDoesNotCount();
        answersWithRoomForOne();
        answersWithoutRoom();
        connectInPlace();
        framesOfTheOneBefore();
        framesOfOtherConnections();
        freedIdentifiers();
        sendEmptiesTheTape();
        sendToTheSixteenthPlace();
        sendAgain();
        aboutTellsItsNine();
        bytesOfTheLatest();
        Check.finish();
    }

    private static StuffedBus connected(int block) {
        StuffedBus bus = new StuffedBus();
        bus.connect(0, 0, 1, X, Y, block);
        return bus;
    }

    /** The hearer is off, so that node 3 can answer in its place. */
    private static StuffedBus unheard() {
        StuffedBus bus = connected(0);
        Buses.switchOff(bus, 1, 2);
        return bus;
    }

    /** It waits since the round before. */
    private static StuffedBus waiting(int length) {
        StuffedBus bus = unheard();
        Buses.send(bus, 0, Buses.message(length));
        bus.round();
        return bus;
    }

    private static void answer(StuffedBus bus, int... bytes) {
        Buses.over(bus, 3, Y, bytes);
    }

    /** It gathers; its answer has left the box. */
    private static StuffedBus gathering(int block, int... first) {
        StuffedBus bus = connected(block);
        Buses.over(bus, 0, X, first);
        bus.round();
        return bus;
    }

    private static void stateIs(String when, StuffedBus bus, int due) {
        Check.equal(when, bus.about(0, 0), due);
    }

    private static void fill(StuffedBus bus, int node, int n) {
        for (int i = 0; i < n; i++) {
            Buses.frame(bus, node, 1000);
        }
    }

    // promise 1: "no connections": frames of all sorts are heard, and nobody answers
    private static void noConnections() {
        StuffedBus bus = new StuffedBus();
        for (int identifier : new int[] {0, 1, 2047}) {
            for (int node = 0; node < 6; node++) {
                Buses.over(bus, node, identifier, FIRST_OF_20);
                Check.equal("it went", bus.latest(0), identifier);
                Check.equal("no answer", bus.round(), 0);
            }
        }
        for (int c = 0; c < 8; c++) {
            int none = c;
            Check.refuses("about", IndexOutOfBoundsException.class, () -> bus.about(none, 0));
            Check.refuses("byteAt", IndexOutOfBoundsException.class, () -> bus.byteAt(none, 0));
            Check.refuses("send", IndexOutOfBoundsException.class, () -> bus.send(none));
        }
    }

    // "CONNECTIONS 0 .. 7 lead from one node to another one"
    private static void connectionsAreEight() {
        StuffedBus bus = new StuffedBus();
        for (int c = 0; c < 8; c++) {
            bus.connect(c, c % 6, (c + 1 + c / 6) % 6, 10 + c, 20 + c, 0);
            Check.equal("new", bus.about(c, 0), 0);
        }
        for (int c = 0; c < 8; c++) {
            Buses.send(bus, c, Buses.message(9 + c));
        }
        bus.rounds(40);
        for (int c = 0; c < 8; c++) {
            Due.messageIs("connection " + c, bus, c, Buses.message(9 + c));
        }
        for (int c : new int[] {-1, 8}) {
            Check.refuses("connect", IndexOutOfBoundsException.class, () -> bus.connect(c, 0, 1, 1, 2, 0));
            Check.refuses("send", IndexOutOfBoundsException.class, () -> bus.send(c));
            Check.refuses("about", IndexOutOfBoundsException.class, () -> bus.about(c, 0));
            Check.refuses("byteAt", IndexOutOfBoundsException.class, () -> bus.byteAt(c, 0));
        }
    }

    // "with an identifier X for what goes forth and Y for what comes back"
    private static void identifiersOfConnections() {
        StuffedBus bus = new StuffedBus();
        bus.connect(0, 0, 5, 0, 2047, 0);
        bus.connect(1, 5, 0, 2046, 1, 0);
        for (int[] w : new int[][] {{-1, 5}, {2048, 5}, {5, -1}, {5, 2048}}) {
            Check.refuses("connect", IllegalArgumentException.class,
                    () -> bus.connect(2, 0, 1, w[0], w[1], 0));
        }
        Buses.send(bus, 0, Buses.message(8));
        bus.round();
        Check.equal("0 goes forth", bus.latest(0), 0);
        bus.round();
        Check.equal("2047 comes back", bus.latest(0), 2047);
        bus.round();
        Due.messageIs("connection 0", bus, 0, Buses.message(8));
    }

    // "and a BLOCK, 0 .. 15"
    private static void blocks() {
        for (int block : new int[] {0, 15}) {
            StuffedBus bus = connected(block);
            Buses.send(bus, 0, Buses.message(400));
            bus.round();
            Due.goesJustSo("told", bus, 1, Y, 48, block, 0);
        }
        StuffedBus bus = new StuffedBus();
        for (int block : new int[] {-1, 16}) {
            Check.refuses("block", IllegalArgumentException.class, () -> bus.connect(0, 0, 1, X, Y, block));
        }
    }

    // "A MESSAGE has 1 .. 400 bytes."
    private static void messagesOf1To400() {
        StuffedBus bus = connected(15);
        Check.refuses("0", IllegalArgumentException.class, () -> bus.send(0));
        Buses.send(bus, 0, 77);
        bus.round();
        Due.messageIs("1", bus, 0, 77);
        Buses.tape(bus, Buses.message(401));
        Check.refuses("401", IllegalArgumentException.class, () -> bus.send(0));
        Buses.send(bus, 0, Buses.message(400));
        // A first frame, 57 following ones, and answers behind the first, 15, 30 and 45.
        bus.rounds(61);
        Due.aboutIs("not yet", bus, 1, 0, 0, 1, 1, 0, 0, 1);
        bus.round();
        Due.aboutIs("400", bus, 0, 0, 0, 2, 0, 0, 0, 2, 400);
        Due.messageIs("400", bus, 0, Buses.message(400));
    }

    // "Of up to 7: one frame X: a byte n, then its bytes. Of more: a FIRST frame"
    private static void ofUpToSevenOneFrame() {
        StuffedBus bus = connected(0);
        Buses.send(bus, 0, 9);
        Due.goesJustSo("1", bus, 0, X, 1, 9);
        stateIs("that was all", bus, 0);
        Buses.send(bus, 0, 1, 2, 3, 4, 5, 6, 7);
        Due.goesJustSo("7", bus, 0, X, 7, 1, 2, 3, 4, 5, 6, 7);
        stateIs("that was all", bus, 0);
        Buses.send(bus, 0, 1, 2, 3, 4, 5, 6, 7, 8);
        Due.goesJustSo("8", bus, 0, X, 0x10, 8, 1, 2, 3, 4, 5, 6);
        stateIs("that was not all", bus, 2);
    }

    // "a FIRST frame, two bytes 4096 + n, its first six"
    private static void theFirstFrame() {
        for (int n : new int[] {8, 255, 256, 399, 400}) {
            StuffedBus bus = connected(0);
            int[] m = Buses.message(n);
            Buses.send(bus, 0, m);
            Due.goesJustSo("first of " + n, bus, 0, X,
                    16 + n / 256, n % 256, m[0], m[1], m[2], m[3], m[4], m[5]);
        }
    }

    // "a byte 32 + k, k the number of it (from 1 on) modulo 16"
    private static void theNumberModulo16() {
        StuffedBus bus = connected(0);
        int[] m = Buses.message(6 + 7 * 34);
        Buses.send(bus, 0, m);
        bus.rounds(2);
        int[] heads = {0x21, 0x22, 0x23, 0x24, 0x25, 0x26, 0x27, 0x28, 0x29, 0x2a, 0x2b, 0x2c, 0x2d, 0x2e,
            0x2f, 0x20};
        for (int k = 0; k < 34; k++) {
            int at = 6 + 7 * k;
            Due.goesJustSo("following " + k, bus, 0, X, heads[k % 16],
                    m[at], m[at + 1], m[at + 2], m[at + 3], m[at + 4], m[at + 5], m[at + 6]);
        }
        Due.aboutIs("all", bus, 0, 0, 0, 1, 0, 0, 0, 1, m.length);
        Check.equal("the last byte", bus.byteAt(0, m.length - 1), m[m.length - 1]);
    }

    // "and the next 7 (or what is left)"
    private static void whatIsLeft() {
        int[] m = {1, 2, 3, 4, 5, 6, 7, 8, 9, 10, 11, 12, 13, 14};
        int[][] due = {{0x21, 7, 8, 9, 10, 11, 12}, {0x21, 7, 8, 9, 10, 11, 12, 13}, NEXT};
        for (int length = 12; length <= 14; length++) {
            StuffedBus bus = connected(0);
            Buses.send(bus, 0, Arrays.copyOf(m, length));
            bus.rounds(2);
            Due.goesJustSo("of " + length, bus, 0, X, due[length - 12]);
            stateIs("of " + length, bus, length == 14 ? 1 : 0);
            if (length == 14) {
                Due.goesJustSo("one is left", bus, 0, X, 0x22, 14);
            }
            Check.equal("nothing more", bus.round(), 0);
            Due.messageIs("of " + length, bus, 0, Arrays.copyOf(m, length));
        }
    }

    // "as soon as the frame before is sent and there is room in the box (at the end of a round)"
    private static void roomInTheBox() {
        for (int before : new int[] {15, 16}) {
            StuffedBus bus = waiting(13);
            fill(bus, 0, before);
            answer(bus, 48, 0);
            stateIs("goes on", bus, 1);
            Check.equal("sixteen", bus.node(0, 3), 16);
            bus.rounds(15);
            // With 15 before it, the piece is now the only one; with 16 it came at the end of the next round.
            Check.equal("strangers first", bus.latest(0), 1000);
            bus.round();
            Check.equal("with " + before, bus.latest(0), before == 15 ? X : 1000);
            stateIs("with " + before, bus, before == 15 ? 0 : 1);
            bus.round();
            stateIs("sent at last", bus, 0);
            Check.equal("wholly", bus.about(0, 3), 1);
        }
    }

    // "Behind the first frame .. the sender WAITS for a frame Y"
    private static void itWaitsBehindTheFirst() {
        StuffedBus bus = unheard();
        Buses.send(bus, 0, Buses.message(8));
        stateIs("in the box", bus, 1);
        bus.spoil(0);
        bus.round();
        stateIs("not sent yet", bus, 1);
        bus.round();
        stateIs("sent", bus, 2);
        Check.equal("nothing goes", bus.rounds(10), 0);
        stateIs("one frame is no first one", connected(0), 0);
    }

    // "and behind each BLOCK following ones"
    private static void itWaitsBehindEachBlock() {
        for (int block : new int[] {1, 2, 15}) {
            StuffedBus bus = waiting(400);
            for (int turn = 0; turn < 3; turn++) {
                answer(bus, 48, block);
                for (int i = 1; i <= block; i++) {
                    stateIs("sends " + i + " of " + block, bus, 1);
                    bus.round();
                    Check.equal("it went", bus.latest(0), X);
                }
                stateIs("waits behind " + block, bus, 2);
                Check.equal("nothing goes", bus.round(), 0);
            }
        }
    }

    // "(not with 0"
    private static void notWithZero() {
        StuffedBus bus = waiting(400);
        answer(bus, 48, 0);
        for (int i = 1; i < 57; i++) {
            bus.round();
            stateIs("goes on", bus, 1);
        }
        bus.round();
        stateIs("all", bus, 0);
        StuffedBus changed = waiting(400);
        answer(changed, 48, 1);
        changed.round();
        stateIs("a block of 1", changed, 2);
        answer(changed, 48, 0);
        changed.rounds(55);
        stateIs("none from now on", changed, 1);
        changed.round();
        stateIs("all", changed, 0);
    }

    // "not when all are sent)"
    private static void notWhenAllAreSent() {
        for (int block : new int[] {1, 2, 15}) {
            StuffedBus bus = waiting(6 + 7 * block);
            answer(bus, 48, block);
            bus.rounds(block);
            Due.aboutIs("just a block of " + block, bus, 0, 0, 0, 1);
            StuffedBus more = waiting(6 + 7 * block + 1);
            answer(more, 48, block);
            more.rounds(block);
            Due.aboutIs("one byte more", more, 2, 0, 0, 0);
        }
    }

    // "48 and one more byte at least: it goes on"
    private static void fortyEightAndOneMoreByte() {
        StuffedBus bus = waiting(8);
        answer(bus, 48);
        stateIs("48 alone", bus, 2);
        answer(bus, 48, 0);
        stateIs("48 and one", bus, 1);
        StuffedBus eight = waiting(8);
        answer(eight, 48, 0, 1, 2, 3, 4, 5, 6);
        stateIs("48 and seven", eight, 1);
    }

    // "(that byte tells the block from now on, by its lowest four bits)"
    private static void theLowestFourBits() {
        int[][] told = {{1, 1}, {15, 15}, {17, 1}, {0xf2, 2}, {255, 15}};
        for (int[] each : told) {
            StuffedBus bus = waiting(400);
            answer(bus, 48, each[0]);
            bus.rounds(each[1] - 1);
            stateIs("before the end of the block", bus, 1);
            bus.round();
            stateIs("told " + each[0], bus, 2);
        }
        for (int none : new int[] {0, 16, 128, 240}) {
            StuffedBus bus = waiting(400);
            answer(bus, 48, none);
            bus.rounds(56);
            stateIs("told " + none, bus, 1);
            bus.round();
            stateIs("all", bus, 0);
        }
    }

    // "49: it waits anew"
    private static void waitsAnew() {
        for (int[] bytes : new int[][] {{49}, {49, 0}, {49, 1, 2, 3, 4, 5, 6, 7}}) {
            StuffedBus bus = waiting(8);
            bus.rounds(40);
            answer(bus, bytes);
            Due.aboutIs("anew", bus, 2, 0, 0, 0);
            bus.rounds(40);
            Due.aboutIs("forty more", bus, 2, 0, 0, 0);
            bus.round();
            Due.aboutIs("too many", bus, 0, 1, 2, 0);
        }
    }

    // "50: ABORTED 1"
    private static void abortedByTheHearer() {
        for (int[] bytes : new int[][] {{50}, {50, 0, 0}, {50, 1, 2, 3, 4, 5, 6, 7}}) {
            StuffedBus bus = waiting(8);
            answer(bus, bytes);
            Due.aboutIs("50", bus, 0, 1, 1, 0);
            Check.equal("nothing goes", bus.rounds(3), 0);
        }
        StuffedBus later = waiting(400);
        answer(later, 48, 1);
        later.round();
        answer(later, 50);
        Due.aboutIs("behind a block", later, 0, 1, 1, 0);
    }

    // "Others are nothing."
    private static void othersAreNothingToTheSender() {
        int[][] others = {
            {}, {0}, {47, 1}, {51, 1}, {48}, {255, 255}, {1, 48, 1}, {0x10, 8, 1, 2, 3, 4, 5, 6}};
        StuffedBus bus = waiting(8);
        for (int[] bytes : others) {
            answer(bus, bytes);
            Due.aboutIs("other", bus, 2, 0, 0, 0);
        }
        bus.rounds(40 - others.length);
        Due.aboutIs("forty rounds since it began", bus, 2, 0, 0, 0);
        bus.round();
        Due.aboutIs("more", bus, 0, 1, 2, 0);
        StuffedBus own = waiting(8);
        Buses.over(own, 0, Y, 48, 0);
        Due.aboutIs("a frame that its own node sends is not heard", own, 2, 0, 0, 0);
    }

    // the same, of a frame that is empty, whatever went before it from the same places of the box
    private static void emptyFramesAreNothing() {
        StuffedBus bus = unheard();
        for (int i = 0; i < 16; i++) {
            answer(bus, 50, 0, 0);
        }
        Buses.send(bus, 0, Buses.message(8));
        bus.round();
        for (int i = 0; i < 16; i++) {
            answer(bus);
            Due.aboutIs("empty", bus, 2, 0, 0, 0);
        }
        StuffedBus hearer = connected(0);
        for (int i = 0; i < 16; i++) {
            Buses.over(hearer, 0, X, NEXT);
        }
        Buses.over(hearer, 3, X, FIRST_OF_20);
        hearer.round();
        for (int i = 0; i < 16; i++) {
            Buses.over(hearer, 0, X);
            Due.aboutIs("empty", hearer, 0, 0, 0, 0, 1, 0, 0, 0, 0);
        }
    }

    // the same, of answers to one that sends or has nothing to send
    private static void answersAreNothingToOneThatDoesNotWait() {
        StuffedBus bus = new StuffedBus();
        bus.connect(0, 0, 1, Y, X, 0);
        Buses.switchOff(bus, 1, 2);
        Buses.send(bus, 0, Buses.message(8));
        for (int head : new int[] {48, 49, 50}) {
            Buses.over(bus, 3, X, head, 0);
            Check.equal("it went first", bus.latest(0), X);
            Due.aboutIs("sending", bus, 1, 0, 0, 0);
        }
        bus.round();
        Due.aboutIs("it waits for all that", bus, 2, 0, 0, 0);
        StuffedBus idle = unheard();
        for (int head : new int[] {48, 49, 50}) {
            answer(idle, head, 0);
            Due.aboutIs("nothing to send", idle, 0, 0, 0, 0);
        }
    }

    // "When more than 40 rounds end while it waits .. : ABORTED 2."
    private static void moreThanFortyRoundsOfWaiting() {
        StuffedBus bus = waiting(8);
        bus.rounds(40);
        Due.aboutIs("forty", bus, 2, 0, 0, 0);
        bus.round();
        Due.aboutIs("forty-one", bus, 0, 1, 2, 0);
        bus.rounds(100);
        Due.aboutIs("once", bus, 0, 1, 2, 0);
        StuffedBus answered = waiting(8);
        answered.rounds(40);
        answer(answered, 48, 0);
        Due.aboutIs("answered in the forty-first", answered, 1, 0, 0, 0);
        StuffedBus refused = waiting(8);
        refused.rounds(40);
        answer(refused, 50);
        Due.aboutIs("refused in the forty-first", refused, 0, 1, 1, 0);
    }

    // "(that in which it began to, or anew, does not count)", also behind a block
    private static void theRoundInWhichItBeganDoesNotCount() {
        StuffedBus bus = waiting(400);
        bus.rounds(30);
        answer(bus, 48, 2);
        bus.rounds(2);
        stateIs("behind a block", bus, 2);
        bus.rounds(40);
        stateIs("forty", bus, 2);
        answer(bus, 49);
        bus.rounds(40);
        stateIs("forty anew", bus, 2);
        bus.round();
        Due.aboutIs("forty-one", bus, 0, 1, 2, 0);
    }

    /** A frame with the same identifier and other bytes from node 4 spoils each round. */
    private static void collide(StuffedBus bus, int identifier) {
        Buses.frame(bus, 4, identifier, 255, 255);
    }

    // "Its node is off at the end of a round: ABORTED 3.", as a piece is in its box
    private static void offAsItSends() {
        StuffedBus bus = connected(0);
        Buses.send(bus, 0, Buses.message(8));
        collide(bus, X);
        bus.rounds(31);
        Due.aboutIs("248", bus, 1, 0, 0, 0);
        bus.round();
        Due.aboutIs("256", bus, 0, 1, 3, 0);
        Check.equal("its frame is gone", bus.node(0, 3), 0);
        bus.rounds(50);
        Due.aboutIs("once", bus, 0, 1, 3, 0);
        bus.restart(0);
        Check.equal("nothing goes on", bus.rounds(3), 0);
    }

    // the same, as it waits
    private static void offAsItWaits() {
        StuffedBus bus = waiting(8);
        Buses.frame(bus, 0, 5);
        collide(bus, 5);
        bus.rounds(31);
        Due.aboutIs("248", bus, 2, 0, 0, 0);
        bus.round();
        Due.aboutIs("256", bus, 0, 1, 3, 0);
        bus.rounds(50);
        Due.aboutIs("once", bus, 0, 1, 3, 0);
        StuffedBus idle = connected(0);
        Buses.switchOff(idle, 0, 4);
        Due.aboutIs("nothing to send, nothing aborted", idle, 0, 0, 0, 0);
    }

    // the same, as it has a piece to send but no room for it
    private static void offAsItHasNoRoom() {
        StuffedBus bus = waiting(13);
        fill(bus, 0, 16);
        answer(bus, 48, 0);
        Due.aboutIs("no room", bus, 1, 0, 0, 0);
        collide(bus, 1000);
        bus.rounds(31);
        Due.aboutIs("248", bus, 1, 0, 0, 0);
        bus.round();
        Due.aboutIs("256", bus, 0, 1, 3, 0);
        Check.equal("no piece came to its box", bus.node(0, 3), 0);
    }

    private static void messagesAre(String when, StuffedBus bus, int due) {
        Check.equal(when, bus.about(0, 7), due);
    }

    // "One frame (first byte 1 .. 7"
    private static void oneFrames() {
        StuffedBus bus = connected(0);
        Buses.over(bus, 0, X, 0, 1, 2, 3, 4, 5, 6, 7);
        messagesAre("0", bus, 0);
        Buses.over(bus, 0, X, 8, 1, 2, 3, 4, 5, 6, 7);
        messagesAre("8", bus, 0);
        Buses.over(bus, 0, X, 1, 11);
        Due.messageIs("1", bus, 0, 11);
        Buses.over(bus, 0, X, 7, 1, 2, 3, 4, 5, 6, 7);
        Due.messageIs("7", bus, 0, 1, 2, 3, 4, 5, 6, 7);
        messagesAre("two", bus, 2);
        Check.equal("no answers", bus.node(1, 3), 0);
    }

    // "and at least so many bytes behind it): the message is there"
    private static void soManyBytesBehind() {
        for (int n = 1; n <= 7; n++) {
            int[] bytes = {n, 21, 22, 23, 24, 25, 26, 27};
            StuffedBus bus = connected(0);
            Buses.over(bus, 0, X, Arrays.copyOf(bytes, n));
            messagesAre("one too few", bus, 0);
            Buses.over(bus, 0, X, Arrays.copyOf(bytes, n + 1));
            Due.messageIs("just so many", bus, 0, Arrays.copyOfRange(bytes, 1, n + 1));
            Buses.over(bus, 0, X, bytes);
            Due.messageIs("more", bus, 0, Arrays.copyOfRange(bytes, 1, n + 1));
            messagesAre("two", bus, 2);
        }
    }

    // "A first frame (8 bytes"
    private static void aFirstFrameHasEight() {
        StuffedBus bus = connected(0);
        for (int n = 0; n < 8; n++) {
            Buses.over(bus, 0, X, Arrays.copyOf(FIRST_OF_20, n));
            Due.aboutIs(n + " bytes", bus, 0, 0, 0, 0, 0, 0, 0, 0, 0);
            Check.equal("no answer", bus.node(1, 3), 0);
        }
        Buses.over(bus, 0, X, FIRST_OF_20);
        Due.aboutIs("8 bytes", bus, 0, 0, 0, 0, 1, 0, 0, 0, 0);
    }

    // "8 .. 400 told): it GATHERS, and answers with Y: 48, BLOCK, 0"
    private static void toldOf8To400() {
        int[][] told = {{0x10, 0}, {0x10, 7}};
        for (int[] head : told) {
            StuffedBus bus = connected(0);
            Buses.over(bus, 0, X, head[0], head[1], 1, 2, 3, 4, 5, 6);
            Due.aboutIs("fewer", bus, 0, 0, 0, 0, 0, 0, 0, 0, 0);
            Check.equal("is nothing", bus.node(1, 3), 0);
        }
        for (int[] head : new int[][] {{0x10, 8}, {0x10, 255}, {0x11, 0}, {0x11, 0x8f}, {0x11, 0x90}}) {
            StuffedBus bus = connected(3);
            Buses.over(bus, 0, X, head[0], head[1], 1, 2, 3, 4, 5, 6);
            Due.aboutIs("told " + head[1], bus, 0, 0, 0, 0, 1, 0, 0, 0, 0);
            Due.goesJustSo("answer", bus, 1, Y, 48, 3, 0);
        }
    }

    // "with more told: 50, 0, 0, and it does not gather"
    private static void withMoreTold() {
        for (int[] head : new int[][] {{0x11, 0x91}, {0x12, 0}, {0x18, 8}, {0x1f, 0xff}}) {
            StuffedBus bus = connected(3);
            Buses.over(bus, 0, X, head[0], head[1], 1, 2, 3, 4, 5, 6);
            Due.aboutIs("told " + head[1], bus, 0, 0, 0, 0, 0, 0, 0, 0, 0);
            Due.goesJustSo("answer", bus, 1, Y, 50, 0, 0);
            Buses.over(bus, 0, X, head[0], head[1], 1, 2, 3, 4, 5);
            Check.equal("of seven bytes it is nothing", bus.node(1, 3), 0);
            Buses.over(bus, 0, X, NEXT);
            Due.aboutIs("a following one is nothing", bus, 0, 0, 0, 0, 0, 0, 0, 0, 0);
        }
    }

    // "48, BLOCK, 0": the connection's, whatever the sender was told by others
    private static void theAnswerTellsTheBlock() {
        for (int block : new int[] {0, 1, 15}) {
            StuffedBus bus = connected(block);
            Buses.over(bus, 0, X, FIRST_OF_20);
            Due.goesJustSo("block " + block, bus, 1, Y, 48, block, 0);
        }
        StuffedBus bus = connected(1);
        fill(bus, 1, 16);
        Buses.send(bus, 0, Buses.message(20));
        bus.round();
        answer(bus, 48, 15);
        bus.rounds(2 + 16);
        Check.equal("no room for the first answers", bus.about(0, 7), 1);
        Buses.send(bus, 0, Buses.message(20));
        bus.round();
        Due.goesJustSo("it tells 1 as before", bus, 1, Y, 48, 1, 0);
    }

    // "A following one, as it gathers"
    private static void followingOnesAsItDoesNotGather() {
        StuffedBus bus = connected(1);
        for (int head = 0x20; head < 0x30; head++) {
            Buses.over(bus, 0, X, head, 1, 2, 3, 4, 5, 6, 7);
        }
        Due.aboutIs("nothing", bus, 0, 0, 0, 0, 0, 0, 0, 0, 0);
        Check.equal("no answer", bus.node(1, 3), 0);
    }

    // "with the next number"; "with another number .. : it gathers no more, FAILED 1"
    private static void theNextNumber() {
        for (int number = 0; number < 16; number++) {
            StuffedBus bus = gathering(0, FIRST_OF_20);
            Buses.over(bus, 0, X, 32 + number, 1, 2, 3, 4, 5, 6, 7);
            if (number == 1) {
                Due.aboutIs("the first is 1", bus, 0, 0, 0, 0, 1, 0, 0, 0, 0);
            } else {
                Due.aboutIs("not " + number, bus, 0, 0, 0, 0, 0, 1, 1, 0, 0);
            }
            Check.equal("no answer", bus.node(1, 3), 0);
        }
        StuffedBus again = gathering(0, FIRST_OF_20);
        Buses.over(again, 0, X, NEXT);
        Buses.over(again, 0, X, NEXT);
        Due.aboutIs("the same once more", again, 0, 0, 0, 0, 0, 1, 1, 0, 0);
        Buses.over(again, 0, X, LAST);
        Due.aboutIs("it gathers no more", again, 0, 0, 0, 0, 0, 1, 1, 0, 0);
    }

    // the same: behind number 15 comes 0, behind that 1
    private static void theNextNumberModulo16() {
        for (int wrong : new int[] {0x21, 0x2f, 0x30}) {
            StuffedBus bus = gathering(0, 0x11, 0x90, 1, 2, 3, 4, 5, 6);
            for (int k = 1; k <= 15; k++) {
                Buses.over(bus, 0, X, 32 + k, 1, 2, 3, 4, 5, 6, 7);
            }
            Check.equal("up to 15", bus.about(0, 4), 1);
            Buses.over(bus, 0, X, wrong, 1, 2, 3, 4, 5, 6, 7);
            Check.equal("48 is no following one", bus.about(0, 5), wrong == 0x30 ? 0 : 1);
        }
        StuffedBus bus = gathering(0, 0x11, 0x90, 0, 0, 0, 0, 0, 0);
        for (int k = 1; k <= 57; k++) {
            Check.equal("gathers before " + k, bus.about(0, 4), 1);
            Buses.over(bus, 0, X, 32 + k % 16, k, k, k, k, k, k, k);
        }
        Due.aboutIs("all", bus, 0, 0, 0, 0, 0, 0, 0, 1, 400);
        Check.equal("byte 399", bus.byteAt(0, 399), 57);
    }

    // "and with as many bytes as are due: it takes these"; "or too few bytes: .. FAILED 1"
    private static void asManyBytesAsAreDue() {
        for (int n = 1; n <= 8; n++) {
            StuffedBus bus = gathering(0, FIRST_OF_20);
            Buses.over(bus, 0, X, Arrays.copyOf(NEXT, n));
            Due.aboutIs("seven are due", bus, 0, 0, 0, 0, n == 8 ? 1 : 0, n == 8 ? 0 : 1, n == 8 ? 0 : 1, 0);
        }
        for (int n = 1; n <= 8; n++) {
            StuffedBus bus = gathering(0, 0x10, 9, 1, 2, 3, 4, 5, 6);
            Buses.over(bus, 0, X, Arrays.copyOf(NEXT, n));
            if (n < 4) {
                Due.aboutIs("three are due", bus, 0, 0, 0, 0, 0, 1, 1, 0);
            } else {
                Due.messageIs("three of " + n, bus, 0, 1, 2, 3, 4, 5, 6, 7, 8, 9);
            }
        }
    }

    // "the message is there when all are"
    private static void thereWhenAllAre() {
        StuffedBus bus = gathering(0, 0x10, 14, 1, 2, 3, 4, 5, 6);
        Buses.over(bus, 0, X, NEXT);
        Due.aboutIs("one is missing", bus, 0, 0, 0, 0, 1, 0, 0, 0, 0);
        Check.refuses("no byte", IndexOutOfBoundsException.class, () -> bus.byteAt(0, 0));
        Buses.over(bus, 0, X, 0x22, 14);
        Due.aboutIs("there", bus, 0, 0, 0, 0, 0, 0, 0, 1, 14);
        Due.messageIs("there", bus, 0, 1, 2, 3, 4, 5, 6, 7, 8, 9, 10, 11, 12, 13, 14);
        Buses.over(bus, 0, X, 0x23, 15);
        Due.aboutIs("it gathers no more", bus, 0, 0, 0, 0, 0, 0, 0, 1, 14);
    }

    // "behind each BLOCK of them (if it is not there yet) it answers 48 likewise"
    private static void itAnswersBehindEachBlock() {
        for (int block : new int[] {0, 1, 2, 15}) {
            StuffedBus bus = gathering(block, 0x10, 6 + 7 * 31, 0, 0, 0, 0, 0, 0);
            for (int k = 1; k < 31; k++) {
                Buses.over(bus, 0, X, 32 + k % 16, k, k, k, k, k, k, k);
                boolean due = block > 0 && k % block == 0;
                Check.equal("block " + block + ", behind " + k, bus.node(1, 3), due ? 1 : 0);
                if (due) {
                    Due.goesJustSo("likewise", bus, 1, Y, 48, block, 0);
                }
            }
            Buses.over(bus, 0, X, 32 + 31 % 16, 0, 0, 0, 0, 0, 0, 0);
            Check.equal("there", bus.about(0, 7), 1);
            Check.equal("no answer", bus.node(1, 3), 0);
        }
    }

    // "One frame .. while it gathers: FAILED 3, and it is as if it had not."
    private static void oneFrameAsItGathers() {
        StuffedBus bus = gathering(0, FIRST_OF_20);
        Buses.over(bus, 0, X, 1, 99);
        Due.aboutIs("failed, and a message", bus, 0, 0, 0, 0, 0, 1, 3, 1, 1);
        Due.messageIs("one", bus, 0, 99);
        Buses.over(bus, 0, X, NEXT);
        Due.aboutIs("the rest is nothing", bus, 0, 0, 0, 0, 0, 1, 3, 1, 1);
        StuffedBus bad = gathering(0, FIRST_OF_20);
        Buses.over(bad, 0, X, 2, 99);
        Due.aboutIs("too few bytes: nothing", bad, 0, 0, 0, 0, 1, 0, 0, 0, 0);
    }

    // "or a first one, while it gathers: FAILED 3, and it is as if it had not."
    private static void aFirstOneAsItGathers() {
        StuffedBus bus = gathering(0, FIRST_OF_20);
        Buses.over(bus, 0, X, NEXT);
        Buses.over(bus, 0, X, 0x10, 8, 31, 32, 33, 34, 35, 36);
        Due.aboutIs("failed, and gathers", bus, 0, 0, 0, 0, 1, 1, 3, 0, 0);
        Due.goesJustSo("answered", bus, 1, Y, 48, 0, 0);
        Buses.over(bus, 0, X, 0x21, 37, 38);
        Due.messageIs("the new one", bus, 0, 31, 32, 33, 34, 35, 36, 37, 38);
        StuffedBus more = gathering(0, FIRST_OF_20);
        Buses.over(more, 0, X, 0x11, 0x91, 1, 2, 3, 4, 5, 6);
        Due.aboutIs("one with more told", more, 0, 0, 0, 0, 0, 1, 3, 0, 0);
        Due.goesJustSo("refused", more, 1, Y, 50, 0, 0);
        StuffedBus fewer = gathering(0, FIRST_OF_20);
        Buses.over(fewer, 0, X, 0x10, 7, 1, 2, 3, 4, 5, 6);
        Due.aboutIs("one with fewer told: nothing", fewer, 0, 0, 0, 0, 1, 0, 0, 0, 0);
    }

    // "Others are nothing."
    private static void othersAreNothingToTheHearer() {
        int[][] others = {
            {}, {0}, {8, 1, 2, 3, 4, 5, 6, 7}, {15, 1}, {0x30, 1, 2, 3, 4, 5, 6, 7}, {49}, {50},
            {255, 1, 2, 3, 4, 5, 6, 7}, {0x10}, {0x10, 8}, {7, 1, 2, 3, 4, 5, 6}};
        StuffedBus bus = gathering(0, FIRST_OF_20);
        for (int[] bytes : others) {
            Buses.over(bus, 0, X, bytes);
            Due.aboutIs("other", bus, 0, 0, 0, 0, 1, 0, 0, 0, 0);
        }
        Check.equal("no answer", bus.node(1, 3), 0);
        Buses.over(bus, 0, X, NEXT);
        Buses.over(bus, 0, X, LAST);
        Due.aboutIs("it goes on as before", bus, 0, 0, 0, 0, 0, 0, 0, 1, 20);
    }

    // "More than 40 rounds end without one for it .. : FAILED 2."
    private static void moreThanFortyRoundsOfGathering() {
        StuffedBus bus = connected(0);
        Buses.over(bus, 0, X, FIRST_OF_20);
        bus.rounds(40);
        Due.aboutIs("forty", bus, 0, 0, 0, 0, 1, 0, 0, 0, 0);
        bus.round();
        Due.aboutIs("forty-one", bus, 0, 0, 0, 0, 0, 1, 2, 0, 0);
        bus.rounds(100);
        Due.aboutIs("once", bus, 0, 0, 0, 0, 0, 1, 2, 0, 0);
        StuffedBus late = connected(0);
        Buses.over(late, 0, X, FIRST_OF_20);
        late.rounds(40);
        Buses.over(late, 0, X, NEXT);
        Due.aboutIs("one in the forty-first", late, 0, 0, 0, 0, 1, 0, 0, 0, 0);
    }

    // "(that of the latest one does not count)"
    private static void theRoundOfTheLatestDoesNotCount() {
        StuffedBus bus = connected(0);
        Buses.over(bus, 0, X, FIRST_OF_20);
        bus.rounds(25);
        Buses.over(bus, 0, X, NEXT);
        bus.rounds(40);
        Due.aboutIs("forty since", bus, 0, 0, 0, 0, 1, 0, 0, 0, 0);
        bus.round();
        Due.aboutIs("forty-one since", bus, 0, 0, 0, 0, 0, 1, 2, 0, 0);
        Buses.over(bus, 0, X, FIRST_OF_20);
        bus.rounds(30);
        Buses.over(bus, 0, X, FIRST_OF_20);
        bus.rounds(40);
        Due.aboutIs("forty since a first one anew", bus, 0, 0, 0, 0, 1, 2, 3, 0, 0);
        bus.round();
        Due.aboutIs("forty-one since", bus, 0, 0, 0, 0, 0, 3, 2, 0, 0);
    }

    // "An answer comes to the node's box at once, if there is room"
    private static void answersWithRoomForOne() {
        int[][] firsts = {FIRST_OF_20, {0x11, 0x91, 1, 2, 3, 4, 5, 6}};
        for (int[] first : firsts) {
            StuffedBus bus = connected(0);
            fill(bus, 1, 15);
            Buses.over(bus, 0, X, first);
            Check.equal("the sixteenth", bus.node(1, 3), 16);
            bus.rounds(15);
            Check.equal("behind the others", bus.latest(0), 1000);
            bus.round();
            Check.equal("it goes", bus.latest(0), Y);
        }
    }

    // "else never"
    private static void answersWithoutRoom() {
        int[][] firsts = {FIRST_OF_20, {0x11, 0x91, 1, 2, 3, 4, 5, 6}};
        for (int[] first : firsts) {
            StuffedBus bus = connected(0);
            fill(bus, 1, 16);
            Buses.over(bus, 0, X, first);
            Check.equal("gathers all the same", bus.about(0, 4), first == FIRST_OF_20 ? 1 : 0);
            bus.rounds(16);
            Check.equal("the last of the others", bus.latest(0), 1000);
            Check.equal("never", bus.rounds(10), 0);
        }
        StuffedBus block = gathering(1, FIRST_OF_20);
        fill(block, 1, 16);
        Buses.over(block, 0, X, NEXT);
        block.rounds(16);
        Check.equal("nor behind a block", block.rounds(10), 0);
    }

    // promise 4: "A connection, in place of the one before, if there was one"
    private static void connectInPlace() {
        StuffedBus bus = connected(0);
        Buses.send(bus, 0, 1, 2, 3);
        bus.round();
        Buses.over(bus, 0, X, FIRST_OF_20);
        Buses.over(bus, 0, X, 1, 9);
        bus.round();
        fill(bus, 1, 16);
        Buses.send(bus, 0, Buses.message(30));
        bus.round();
        answer(bus, 50);
        bus.rounds(16);
        Buses.send(bus, 0, Buses.message(30));
        bus.round();
        Due.aboutIs("much has been", bus, 2, 1, 1, 1, 1, 2, 3, 2, 1);
        bus.connect(0, 0, 1, X, Y, 0);
        Due.aboutIs("all is new", bus, 0, 0, 0, 0, 0, 0, 0, 0, 0);
        Check.refuses("no message", IndexOutOfBoundsException.class, () -> bus.byteAt(0, 0));
        bus.rounds(100);
        Due.aboutIs("nothing of the one before ends", bus, 0, 0, 0, 0, 0, 0, 0, 0, 0);
    }

    // promise 4: "(its frames that are in boxes stay there, but are of no message then)"
    private static void framesOfTheOneBefore() {
        StuffedBus bus = connected(0);
        Buses.send(bus, 0, Buses.message(8));
        bus.connect(0, 0, 1, X, Y, 0);
        Check.equal("stays", bus.node(0, 3), 1);
        Buses.send(bus, 0, 5, 6);
        Check.equal("behind it", bus.node(0, 3), 2);
        bus.round();
        Due.aboutIs("of no message, but heard", bus, 1, 0, 0, 0, 1, 0, 0, 0, 0);
        Check.equal("and answered", bus.node(1, 3), 1);
        bus.round();
        Due.aboutIs("then the message's own", bus, 0, 0, 0, 1, 0, 1, 3, 1, 2);
        StuffedBus answered = connected(0);
        Buses.over(answered, 0, X, FIRST_OF_20);
        answered.connect(0, 0, 1, 7, 8, 0);
        Check.equal("an answer stays too", answered.node(1, 3), 1);
        answered.round();
        Check.equal("and goes", answered.latest(0), Y);
    }

    // the same: those of other connections are of their messages as before
    private static void framesOfOtherConnections() {
        StuffedBus bus = connected(0);
        Buses.send(bus, 0, Buses.message(13));
        bus.connect(1, 0, 1, 5, 6, 0);
        Buses.send(bus, 1, 3);
        bus.connect(1, 0, 1, 7, 8, 0);
        bus.round();
        Due.aboutIs("its first frame is sent", bus, 2, 0, 0, 0, 1);
        bus.connect(1, 0, 1, 5, 6, 0);
        bus.rounds(3);
        Due.messageIs("and all others", bus, 0, Buses.message(13));
        Check.equal("sent", bus.about(0, 3), 1);
        Check.equal("that of the one before is of none", bus.about(1, 3), 0);
        Due.messageIs("but it is heard", bus, 1, 3);
    }

    // promise 4: an identifier is "one of another connection" only as long as that one has it
    private static void freedIdentifiers() {
        StuffedBus bus = connected(0);
        Check.refuses("X", IllegalArgumentException.class, () -> bus.connect(1, 2, 3, X, 5, 0));
        Check.refuses("Y", IllegalArgumentException.class, () -> bus.connect(1, 2, 3, 5, Y, 0));
        bus.connect(0, 0, 1, Y, X, 0);
        bus.connect(0, 0, 1, 6, X, 0);
        bus.connect(1, 2, 3, Y, 5, 0);
        Check.refuses("6", IllegalArgumentException.class, () -> bus.connect(1, 2, 3, 6, 5, 0));
        Check.refuses("X still", IllegalArgumentException.class, () -> bus.connect(2, 2, 3, 7, X, 0));
        bus.connect(2, 2, 3, 7, 8, 0);
        Check.equal("three", bus.about(0, 0) + bus.about(1, 0) + bus.about(2, 0), 0);
    }

    // promise 5: "The tape (which is empty then) is a message of a connection"
    private static void sendEmptiesTheTape() {
        StuffedBus bus = connected(0);
        Buses.send(bus, 0, Buses.message(400));
        Check.refuses("no byte", IllegalArgumentException.class, () -> bus.end(1));
        Check.equal("feed", bus.feed(-1, -1, -1, -1, -1), 20);
        bus.rounds(80);
        Due.messageIs("the tape that it was", bus, 0, Buses.message(400));
    }

    // promise 5: "its first frame comes to the box"; refused if "its box is full"
    private static void sendToTheSixteenthPlace() {
        StuffedBus bus = connected(0);
        fill(bus, 0, 15);
        Buses.send(bus, 0, 1);
        Check.equal("the sixteenth", bus.node(0, 3), 16);
        StuffedBus full = connected(0);
        fill(full, 0, 16);
        Buses.tape(full, 1);
        Check.refuses("full", IllegalStateException.class, () -> full.send(0));
        full.round();
        full.send(0);
        Check.equal("room for one", full.node(0, 3), 16);
        full.rounds(16);
        Due.messageIs("it came", full, 0, 1);
    }

    // promise 5: "IllegalStateException: it is sending or waiting, its node is off": not before, not after
    private static void sendAgain() {
        StuffedBus bus = connected(1);
        for (int turn = 0; turn < 2; turn++) {
            Buses.send(bus, 0, Buses.message(13));
            Buses.tape(bus, 1);
            Check.refuses("sending", IllegalStateException.class, () -> bus.send(0));
            bus.round();
            Check.refuses("waiting", IllegalStateException.class, () -> bus.send(0));
            bus.round();
            Check.refuses("sending again", IllegalStateException.class, () -> bus.send(0));
            bus.round();
        }
        Buses.send(bus, 0, 2);
        bus.round();
        Due.aboutIs("all are sent", bus, 0, 0, 0, 3, 0, 0, 0, 3, 1);
        Buses.switchOff(bus, 0, 4);
        Buses.tape(bus, 3);
        Check.refuses("off", IllegalStateException.class, () -> bus.send(0));
        bus.restart(0);
        bus.send(0);
        bus.round();
        Due.messageIs("not any more", bus, 0, 3);
        StuffedBus aborted = waiting(8);
        aborted.rounds(41);
        Buses.send(aborted, 0, 4);
        stateIs("an aborted one does not hinder", aborted, 1);
    }

    // promise 13: what is 0 .. 8, "(0: never)", each at the first time and at the next
    private static void aboutTellsItsNine() {
        StuffedBus bus = connected(0);
        Due.aboutIs("never", bus, 0, 0, 0, 0, 0, 0, 0, 0, 0);
        Check.refuses("-1", IllegalArgumentException.class, () -> bus.about(0, -1));
        Check.refuses("9", IllegalArgumentException.class, () -> bus.about(0, 9));
        Buses.send(bus, 0, Buses.message(400));
        fill(bus, 1, 16);
        bus.rounds(42);
        Due.aboutIs("no answer: both end", bus, 0, 1, 2, 0, 0, 1, 2, 0, 0);
        Buses.send(bus, 0, Buses.message(8));
        fill(bus, 1, 16);
        bus.round();
        answer(bus, 50);
        Due.aboutIs("aborted for another reason", bus, 0, 2, 1, 0, 1, 1, 2, 0, 0);
        Buses.send(bus, 0, 7, 8, 9);
        bus.round();
        Due.aboutIs("failed for another reason", bus, 0, 2, 1, 1, 0, 2, 3, 1, 3);
        Buses.send(bus, 0, 7);
        bus.round();
        Due.aboutIs("two came", bus, 0, 2, 1, 2, 0, 2, 3, 2, 1);
    }

    // promise 14: "Byte i of the latest message that came."
    private static void bytesOfTheLatest() {
        StuffedBus bus = connected(0);
        Check.refuses("none came", IndexOutOfBoundsException.class, () -> bus.byteAt(0, 0));
        Buses.send(bus, 0, Buses.message(400));
        bus.rounds(59);
        Check.equal("the first", bus.byteAt(0, 0), Buses.message(400)[0]);
        Check.equal("the last", bus.byteAt(0, 399), Buses.message(400)[399]);
        Check.refuses("behind it", IndexOutOfBoundsException.class, () -> bus.byteAt(0, 400));
        Check.refuses("before it", IndexOutOfBoundsException.class, () -> bus.byteAt(0, -1));
        Buses.send(bus, 0, 255, 0);
        Check.equal("still the one before", bus.about(0, 8), 400);
        bus.round();
        Due.messageIs("a shorter one", bus, 0, 255, 0);
        Buses.over(bus, 0, X, FIRST_OF_20);
        Due.messageIs("what is gathered is none yet", bus, 0, 255, 0);
    }
}
