/** Promises 4 (connect), 5 (send), 13 (about) and 14 (byteAt), and the terms of 3 MESSAGES. */
public final class MessagesTest {
    private static final int X = 100;
    private static final int Y = 200;
    // What the hearer of connection 0 gets of these comes from its sender's node, 0.
    private static final int[] FIRST_OF_20 = {0x10, 20, 1, 2, 3, 4, 5, 6};
    private static final int[] NEXT = {0x21, 7, 8, 9, 10, 11, 12, 13};
    private static final int[] LAST = {0x22, 14, 15, 16, 17, 18, 19, 20};

    private MessagesTest() {
    }

    public static void main(String[] args) {
        messagesOfAllSizesCome();
        piecesAreAsTold();
        theSenderGoesThroughItsStates();
        theSenderObeysTheBlockItIsTold();
        theSenderWaitsAnewOrAborts();
        theSenderHearsNothingElse();
        theSenderWaitsFortyRounds();
        theSenderIsOff();
        aPieceWaitsForRoom();
        theHearerGathers();
        theHearerAnswersBehindEachBlock();
        theHearerTakesOneFrames();
        theHearerRefusesLongOnes();
        theHearerFailsByOrder();
        theHearerFailsByNewOnes();
        theHearerWaitsFortyRounds();
        otherFramesAreNothing();
        theHearerMustHear();
        answersThatFindNoRoom();
        spoiltLastBitsRepeatFrames();
        connectReplaces();
        framesOfTheOneBeforeAreOfNoMessage();
        connectRefuses();
        sendRefuses();
        aboutAndByteAtRefuse();
        Check.finish();
    }

    private static StuffedBus connected(int block) {
        StuffedBus bus = new StuffedBus();
        bus.connect(0, 0, 1, X, Y, block);
        return bus;
    }

    private static void messagesOfAllSizesCome() {
        int[] sizes = {1, 6, 7, 8, 13, 14, 20, 21, 118, 119, 255, 256, 399, 400};
        for (int block = 0; block < 16; block++) {
            for (int size : sizes) {
                aMessageComes(block, size);
            }
        }
    }

    private static void aMessageComes(int block, int size) {
        StuffedBus bus = connected(block);
        Buses.send(bus, 0, 3);
        bus.round();
        Buses.send(bus, 0, Buses.message(size));
        int following = size < 8 ? 0 : (size - 6 + 6) / 7;
        int answers = size < 8 ? 0 : block == 0 ? 1 : 1 + (following - 1) / block;
        bus.rounds(following + answers);
        Due.aboutIs("not yet " + size, bus, 1, 0, 0, 1, size < 8 ? 0 : 1, 0, 0, 1, 1);
        bus.round();
        Due.aboutIs("all " + size, bus, 0, 0, 0, 2, 0, 0, 0, 2, size);
        Due.messageIs("block " + block, bus, 0, Buses.message(size));
        Check.equal("nothing more", bus.round(), 0);
    }

    private static void piecesAreAsTold() {
        StuffedBus bus = connected(2);
        Buses.send(bus, 0, 9, 8, 7);
        Due.goesJustSo("one", bus, 0, X, 3, 9, 8, 7);
        int[] m = Buses.message(300);
        Buses.send(bus, 0, m);
        Due.goesJustSo("first", bus, 0, X, 0x11, 0x2c, m[0], m[1], m[2], m[3], m[4], m[5]);
        int at = 6;
        for (int k = 1; k <= 34; k++) {
            if (k % 2 == 1) {
                Due.goesJustSo("answer", bus, 1, Y, 48, 2, 0);
            }
            Due.goesJustSo("following " + k, bus, 0, X, 32 + k % 16,
                    m[at], m[at + 1], m[at + 2], m[at + 3], m[at + 4], m[at + 5], m[at + 6]);
            at += 7;
        }
        bus.rounds(8 + 4);
        Check.equal("it was all", bus.about(0, 0), 0);
        Buses.send(bus, 0, 1, 2, 3, 4, 5, 6, 7, 8);
        bus.rounds(2);
        Due.goesJustSo("what is left", bus, 0, X, 0x21, 7, 8);
    }

    private static void theSenderGoesThroughItsStates() {
        StuffedBus bus = connected(1);
        Due.aboutIs("at first", bus, 0, 0, 0, 0, 0, 0, 0, 0, 0);
        Buses.send(bus, 0, Buses.message(20));
        Due.aboutIs("first frame in the box", bus, 1, 0, 0, 0, 0);
        Check.equal("in the box", bus.node(0, 3), 1);
        bus.round();
        Due.aboutIs("first frame sent", bus, 2, 0, 0, 0, 1);
        Check.equal("nothing in the box", bus.node(0, 3), 0);
        Check.equal("the answer in the other box", bus.node(1, 3), 1);
        bus.round();
        Due.aboutIs("answered", bus, 1, 0, 0, 0, 1);
        Check.equal("a following one in the box", bus.node(0, 3), 1);
        bus.round();
        Due.aboutIs("behind the block", bus, 2, 0, 0, 0, 1);
        bus.round();
        bus.round();
        Due.aboutIs("sent, and no wait behind the last one", bus, 0, 0, 0, 1, 0, 0, 0, 1, 20);
        Check.equal("no answer behind the last one", bus.node(1, 3), 0);
    }

    /** Connection 0 with a hearer that is off, so that a test can answer in its place. */
    private static StuffedBus unheard() {
        StuffedBus bus = connected(0);
        Buses.switchOff(bus, 1, 2);
        return bus;
    }

    private static void stateIs(String when, StuffedBus bus, int due) {
        Check.equal(when, bus.about(0, 0), due);
    }

    private static void theSenderObeysTheBlockItIsTold() {
        StuffedBus bus = unheard();
        Buses.send(bus, 0, Buses.message(100));
        bus.round();
        stateIs("behind the first", bus, 2);
        Buses.over(bus, 3, Y, 48, 0xf2);
        stateIs("goes on", bus, 1);
        bus.round();
        stateIs("one of two", bus, 1);
        bus.round();
        stateIs("two of two", bus, 2);
        Buses.over(bus, 3, Y, 48, 3, 99, 99);
        bus.rounds(2);
        stateIs("two of three", bus, 1);
        bus.round();
        stateIs("three of three", bus, 2);
        Buses.over(bus, 3, Y, 48, 16, 0);
        bus.rounds(8);
        stateIs("no block, one is left", bus, 1);
        Check.equal("not yet", bus.about(0, 3), 0);
        bus.round();
        stateIs("all", bus, 0);
        Check.equal("sent wholly", bus.about(0, 3), 1);
    }

    private static void theSenderWaitsAnewOrAborts() {
        StuffedBus bus = unheard();
        Buses.send(bus, 0, Buses.message(30));
        bus.rounds(41);
        stateIs("forty rounds", bus, 2);
        Buses.over(bus, 3, Y, 49);
        stateIs("anew, in the round that would be too many", bus, 2);
        bus.rounds(40);
        stateIs("forty rounds anew", bus, 2);
        Buses.over(bus, 3, Y, 48, 1);
        stateIs("goes on in the last round", bus, 1);
        bus.round();
        Buses.over(bus, 3, Y, 50);
        Due.aboutIs("told so", bus, 0, 1, 1, 0);
        Check.equal("nothing goes on", bus.rounds(3), 0);
        Buses.send(bus, 0, 1);
        bus.round();
        Due.aboutIs("the next message", bus, 0, 1, 1, 1);
        Buses.send(bus, 0, Buses.message(8));
        bus.rounds(42);
        Due.aboutIs("the latest reason", bus, 0, 2, 2, 1);
    }

    private static void theSenderHearsNothingElse() {
        StuffedBus bus = unheard();
        // An empty frame must not be taken for what stood in its place of the box before.
        for (int i = 0; i < 16; i++) {
            Buses.over(bus, 3, Y, 50);
        }
        Buses.send(bus, 0, Buses.message(30));
        bus.round();
        Buses.over(bus, 3, Y, 48);
        stateIs("48 without a block", bus, 2);
        Buses.over(bus, 3, Y);
        Buses.over(bus, 3, Y, 47, 1);
        Buses.over(bus, 3, Y, 51, 1);
        Buses.over(bus, 3, Y, 0, 48, 1);
        Buses.over(bus, 3, Y + 1, 48, 1);
        Buses.over(bus, 0, Y, 48, 1);
        stateIs("others, and its own node's", bus, 2);
        bus.rounds(33);
        stateIs("and they do not begin the time anew", bus, 2);
        bus.round();
        Due.aboutIs("too many", bus, 0, 1, 2, 0);
        Buses.over(bus, 3, Y, 50);
        Due.aboutIs("no message is there", bus, 0, 1, 2, 0);
        bus.connect(0, 0, 1, Y, X, 0);
        Buses.send(bus, 0, Buses.message(30));
        Buses.over(bus, 3, X, 50);
        Check.equal("it goes before the first frame", bus.latest(0), X);
        Due.aboutIs("sending, not waiting", bus, 1, 0, 0, 0);
    }

    private static void theSenderWaitsFortyRounds() {
        StuffedBus bus = unheard();
        Buses.send(bus, 0, Buses.message(30));
        bus.round();
        bus.rounds(40);
        Due.aboutIs("forty", bus, 2, 0, 0, 0);
        bus.round();
        Due.aboutIs("more than forty", bus, 0, 1, 2, 0);
    }

    private static void theSenderIsOff() {
        StuffedBus bus = connected(0);
        Buses.send(bus, 0, 1, 2, 3);
        Buses.frame(bus, 3, X, 9);
        bus.rounds(31);
        Due.aboutIs("not off yet", bus, 1, 0, 0, 0);
        bus.round();
        Due.aboutIs("off as it sends", bus, 0, 1, 3, 0);
        Buses.tape(bus, 1);
        Check.refuses("off", IllegalStateException.class, () -> bus.send(0));
        bus.restart(0);
        bus.send(0);
        bus.round();
        Due.aboutIs("it sends again", bus, 0, 1, 3, 1);
        StuffedBus waits = unheard();
        Buses.send(waits, 0, Buses.message(30));
        waits.round();
        Buses.switchOff(waits, 0, 3);
        Due.aboutIs("off as it waits", waits, 0, 1, 3, 0);
        waits.rounds(50);
        Due.aboutIs("once", waits, 0, 1, 3, 0);
    }

    private static void aPieceWaitsForRoom() {
        StuffedBus bus = unheard();
        Buses.send(bus, 0, Buses.message(13));
        bus.round();
        Buses.frame(bus, 3, Y, 48, 0);
        for (int i = 0; i < 16; i++) {
            Buses.frame(bus, 0, 1000);
        }
        bus.round();
        Check.equal("the answer went", bus.latest(0), Y);
        stateIs("sending", bus, 1);
        Check.equal("no room", bus.node(0, 3), 16);
        bus.round();
        Check.equal("a stranger went, the piece came", bus.node(0, 3), 16);
        for (int i = 0; i < 15; i++) {
            bus.round();
            Check.equal("strangers first", bus.latest(0), 1000);
        }
        stateIs("still sending", bus, 1);
        bus.round();
        Check.equal("the piece", bus.latest(0), X);
        stateIs("sent", bus, 0);
        Check.equal("wholly", bus.about(0, 3), 1);
    }

    private static void theHearerGathers() {
        StuffedBus bus = connected(0);
        Buses.over(bus, 0, X, FIRST_OF_20);
        Due.aboutIs("gathers", bus, 0, 0, 0, 0, 1, 0, 0, 0, 0);
        Due.goesJustSo("answer", bus, 1, Y, 48, 0, 0);
        Buses.over(bus, 0, X, NEXT);
        Check.equal("no answer in between", bus.node(1, 3), 0);
        Due.aboutIs("gathers", bus, 0, 0, 0, 0, 1, 0, 0, 0, 0);
        Buses.over(bus, 0, X, LAST);
        Due.aboutIs("there", bus, 0, 0, 0, 0, 0, 0, 0, 1, 20);
        Due.messageIs("there", bus, 0, 1, 2, 3, 4, 5, 6, 7, 8, 9, 10, 11, 12, 13, 14, 15, 16, 17, 18, 19, 20);
        Buses.over(bus, 0, X, 0x10, 8, 31, 32, 33, 34, 35, 36);
        bus.round();
        Due.messageIs("the one before, while it gathers", bus, 0,
                1, 2, 3, 4, 5, 6, 7, 8, 9, 10, 11, 12, 13, 14, 15, 16, 17, 18, 19, 20);
        Buses.over(bus, 4, X, 0x21, 70, 80, 90, 91);
        Due.messageIs("more bytes than are due, from any node", bus, 0, 31, 32, 33, 34, 35, 36, 70, 80);
    }

    private static void theHearerAnswersBehindEachBlock() {
        StuffedBus bus = connected(2);
        Buses.over(bus, 0, X, 0x10, 41, 1, 2, 3, 4, 5, 6);
        Due.goesJustSo("behind the first", bus, 1, Y, 48, 2, 0);
        for (int k = 1; k <= 5; k++) {
            Buses.over(bus, 0, X, 32 + k, 1, 2, 3, 4, 5, 6, 7);
            Check.equal("behind " + k, bus.node(1, 3), k == 2 || k == 4 ? 1 : 0);
            bus.round();
        }
        Check.equal("there", bus.about(0, 8), 41);
        Buses.over(bus, 0, X, FIRST_OF_20);
        bus.round();
        Buses.over(bus, 0, X, NEXT);
        Buses.over(bus, 0, X, LAST);
        Check.equal("no answer when it is there", bus.node(1, 3), 0);
    }

    private static void theHearerTakesOneFrames() {
        StuffedBus bus = connected(0);
        Buses.over(bus, 0, X, 7, 1, 2, 3, 4, 5, 6, 7);
        Due.messageIs("seven", bus, 0, 1, 2, 3, 4, 5, 6, 7);
        Buses.over(bus, 0, X, 2, 8, 9, 10);
        Due.messageIs("two of three", bus, 0, 8, 9);
        Check.equal("two came", bus.about(0, 7), 2);
        Check.equal("no answer", bus.node(1, 3), 0);
        Buses.over(bus, 0, X, 3, 1, 2);
        Buses.over(bus, 0, X, 0, 1, 2);
        Buses.over(bus, 0, X, 8, 1, 2, 3, 4, 5, 6, 7);
        Buses.over(bus, 0, X);
        Check.equal("these are nothing", bus.about(0, 7), 2);
        Due.messageIs("still", bus, 0, 8, 9);
    }

    private static void theHearerRefusesLongOnes() {
        StuffedBus bus = connected(3);
        Buses.over(bus, 0, X, 0x11, 0x91, 1, 2, 3, 4, 5, 6);
        Due.aboutIs("401", bus, 0, 0, 0, 0, 0, 0, 0, 0, 0);
        Due.goesJustSo("refused", bus, 1, Y, 50, 0, 0);
        Buses.over(bus, 0, X, 0x1f, 0xff, 1, 2, 3, 4, 5, 6);
        Due.goesJustSo("4095", bus, 1, Y, 50, 0, 0);
        Buses.over(bus, 0, X, 0x18, 20, 1, 2, 3, 4, 5, 6);
        Due.goesJustSo("2068", bus, 1, Y, 50, 0, 0);
        Buses.over(bus, 0, X, 0x11, 0x90, 1, 2, 3, 4, 5, 6);
        Due.aboutIs("400", bus, 0, 0, 0, 0, 1, 0, 0, 0, 0);
        Due.goesJustSo("400", bus, 1, Y, 48, 3, 0);
        Buses.over(bus, 0, X, 0x11, 0x91, 1, 2, 3, 4, 5, 6);
        Due.aboutIs("401 as it gathers", bus, 0, 0, 0, 0, 0, 1, 3, 0, 0);
        Due.goesJustSo("refused", bus, 1, Y, 50, 0, 0);
    }

    private static void theHearerFailsByOrder() {
        int[][] wrong = {
            {0x20, 7, 8, 9, 10, 11, 12, 13}, {0x22, 7, 8, 9, 10, 11, 12, 13},
            {0x2f, 7, 8, 9, 10, 11, 12, 13}, {0x21, 7, 8, 9, 10, 11, 12}, {0x21}};
        for (int[] bytes : wrong) {
            StuffedBus bus = connected(0);
            Buses.over(bus, 0, X, FIRST_OF_20);
            bus.round();
            Buses.over(bus, 0, X, bytes);
            Due.aboutIs("wrong", bus, 0, 0, 0, 0, 0, 1, 1, 0, 0);
            Buses.over(bus, 0, X, NEXT);
            Due.aboutIs("a following one, as it does not gather", bus, 0, 0, 0, 0, 0, 1, 1, 0, 0);
        }
        StuffedBus bus = connected(0);
        Buses.over(bus, 0, X, FIRST_OF_20);
        bus.round();
        Buses.over(bus, 0, X, NEXT);
        Buses.over(bus, 0, X, NEXT);
        Due.aboutIs("the same one again", bus, 0, 0, 0, 0, 0, 1, 1, 0, 0);
        Buses.over(bus, 0, X, 0x10, 9, 1, 2, 3, 4, 5, 6);
        bus.round();
        Buses.over(bus, 0, X, 0x21, 7, 8);
        Due.aboutIs("too few of what is left", bus, 0, 0, 0, 0, 0, 2, 1, 0, 0);
    }

    private static void theHearerFailsByNewOnes() {
        StuffedBus bus = connected(0);
        Buses.over(bus, 0, X, FIRST_OF_20);
        bus.round();
        Buses.over(bus, 0, X, NEXT);
        Buses.over(bus, 0, X, FIRST_OF_20);
        Due.aboutIs("a first one", bus, 0, 0, 0, 0, 1, 1, 3, 0, 0);
        Due.goesJustSo("answered", bus, 1, Y, 48, 0, 0);
        Buses.over(bus, 0, X, NEXT);
        Buses.over(bus, 0, X, LAST);
        Due.aboutIs("gathered from the new one on", bus, 0, 0, 0, 0, 0, 1, 3, 1, 20);
        Buses.over(bus, 0, X, FIRST_OF_20);
        bus.round();
        Buses.over(bus, 0, X, 1, 77);
        Due.aboutIs("one frame", bus, 0, 0, 0, 0, 0, 2, 3, 2, 1);
        Due.messageIs("one frame", bus, 0, 77);
    }

    private static void theHearerWaitsFortyRounds() {
        StuffedBus bus = connected(0);
        Buses.over(bus, 0, X, FIRST_OF_20);
        bus.rounds(40);
        Check.equal("forty", bus.about(0, 4), 1);
        Buses.over(bus, 0, X, NEXT);
        bus.rounds(40);
        Due.aboutIs("forty since the latest", bus, 0, 0, 0, 0, 1, 0, 0);
        bus.round();
        Due.aboutIs("more than forty", bus, 0, 0, 0, 0, 0, 1, 2);
        bus.rounds(50);
        Due.aboutIs("once", bus, 0, 0, 0, 0, 0, 1, 2);
    }

    private static void otherFramesAreNothing() {
        StuffedBus bus = connected(0);
        Buses.over(bus, 0, X, FIRST_OF_20);
        int[][] others = {
            {}, {0, 1, 2}, {3, 1, 2}, {8, 1, 2, 3, 4, 5, 6, 7}, {0x10, 20, 1, 2, 3, 4, 5},
            {0x10, 7, 1, 2, 3, 4, 5, 6}, {0x10, 0, 1, 2, 3, 4, 5, 6}, {0x11, 0x91, 1, 2},
            {0x30, 7, 8, 9, 10, 11, 12, 13}, {48, 0, 0}, {255, 1, 2, 3, 4, 5, 6, 7}};
        bus.round();
        for (int[] bytes : others) {
            Buses.over(bus, 0, X, bytes);
            Due.aboutIs("nothing", bus, 0, 0, 0, 0, 1, 0, 0, 0, 0);
            Check.equal("no answer", bus.node(1, 3), 0);
        }
        bus.rounds(40 - 1 - others.length);
        Check.equal("forty rounds without one for it", bus.about(0, 4), 1);
        bus.round();
        Check.equal("more", bus.about(0, 6), 2);
        StuffedBus idle = connected(0);
        for (int[] bytes : others) {
            Buses.over(idle, 0, X, bytes);
        }
        Buses.over(idle, 0, X, NEXT);
        Due.aboutIs("and as it does not gather", idle, 0, 0, 0, 0, 0, 0, 0, 0, 0);
        Check.equal("no answer", idle.node(1, 3), 0);
    }

    private static void theHearerMustHear() {
        StuffedBus bus = connected(0);
        Buses.over(bus, 1, X, 1, 2);
        Check.equal("its own node's frame", bus.about(0, 7), 0);
        Buses.over(bus, 5, X, 1, 2);
        Check.equal("another node's frame", bus.about(0, 7), 1);
        Buses.over(bus, 5, X + 1, 1, 2);
        Buses.over(bus, 5, Y, 1, 2);
        Check.equal("another identifier", bus.about(0, 7), 1);
        Buses.frame(bus, 1, X + 1, 9);
        Buses.over(bus, 5, X, 1, 3);
        Check.equal("a node that lost hears", bus.about(0, 7), 2);
        bus.round();
        Buses.over(bus, 5, X, FIRST_OF_20);
        bus.round();
        Buses.switchOff(bus, 1, 2);
        Check.equal("it gathers though off", bus.about(0, 4), 1);
        Buses.over(bus, 5, X, NEXT);
        bus.rounds(8);
        Due.aboutIs("but hears nothing", bus, 0, 0, 0, 0, 0, 1, 2, 2, 1);
    }

    private static void answersThatFindNoRoom() {
        StuffedBus bus = connected(0);
        for (int i = 0; i < 16; i++) {
            Buses.frame(bus, 1, 1000);
        }
        Buses.over(bus, 0, X, FIRST_OF_20);
        Check.equal("gathers", bus.about(0, 4), 1);
        for (int i = 0; i < 16; i++) {
            bus.round();
            Check.equal("no answer", bus.latest(0), 1000);
        }
        Check.equal("never", bus.round(), 0);
    }

    private static void spoiltLastBitsRepeatFrames() {
        StuffedBus bus = connected(0);
        Buses.send(bus, 0, 5, 6);
        bus.spoil(Buses.bitsOf(X, 2, 5, 6) - 1);
        bus.round();
        Due.aboutIs("came, but was not sent", bus, 1, 0, 0, 0, 0, 0, 0, 1, 2);
        bus.round();
        Due.aboutIs("came twice", bus, 0, 0, 0, 1, 0, 0, 0, 2, 2);
        Buses.send(bus, 0, 1, 2, 3, 4, 5, 6, 7, 8);
        bus.rounds(2);
        bus.spoil(Buses.bitsOf(X, 0x21, 7, 8) - 1);
        bus.rounds(2);
        Due.aboutIs("the last piece again is nothing", bus, 0, 0, 0, 2, 0, 0, 0, 3, 8);
        Buses.send(bus, 0, 1, 2, 3, 4, 5, 6, 7, 8);
        bus.spoil(Buses.bitsOf(X, 0x10, 8, 1, 2, 3, 4, 5, 6) - 1);
        bus.rounds(2);
        Due.aboutIs("a first one again", bus, 2, 0, 0, 2, 1, 1, 3, 3, 8);
        Check.equal("answered twice", bus.node(1, 3), 2);
        bus.rounds(3);
        Due.aboutIs("it is well all the same", bus, 0, 0, 0, 3, 0, 1, 3, 4, 8);
    }

    private static void connectReplaces() {
        StuffedBus bus = connected(0);
        Buses.send(bus, 0, Buses.message(30));
        bus.round();
        bus.connect(0, 0, 1, Y, X, 0);
        Due.aboutIs("all is new", bus, 0, 0, 0, 0, 0, 0, 0, 0, 0);
        Check.equal("its answer stays in the box", bus.node(1, 3), 1);
        bus.connect(0, 0, 1, X, Y, 0);
        Buses.send(bus, 0, 7, 7);
        bus.connect(0, 0, 1, X, Y, 0);
        Due.aboutIs("of no message", bus, 0, 0, 0, 0, 0, 0, 0, 0, 0);
        Check.equal("stays in the box", bus.node(0, 3), 1);
        Buses.send(bus, 0, 8);
        Check.equal("behind it", bus.node(0, 3), 2);
        bus.round();
        Due.aboutIs("it is heard, but not the message's", bus, 1, 0, 0, 0, 0, 0, 0, 1, 2);
        bus.round();
        Due.aboutIs("sent", bus, 0, 0, 0, 1, 0, 0, 0, 2, 1);
        Buses.over(bus, 0, X, FIRST_OF_20);
        Buses.over(bus, 0, X, LAST);
        Buses.send(bus, 0, Buses.message(30));
        Buses.frame(bus, 2, X, 9);
        bus.rounds(33);
        Due.aboutIs("all have happened", bus, 0, 1, 3, 1, 0, 1, 1, 2, 1);
        bus.connect(0, 0, 2, X, Y, 0);
        Due.aboutIs("all is new once more", bus, 0, 0, 0, 0, 0, 0, 0, 0, 0);
        Check.refuses("no message came", IndexOutOfBoundsException.class, () -> bus.byteAt(0, 0));
        bus.connect(7, 5, 4, 0, 2047, 15);
        Buses.send(bus, 7, Buses.message(300));
        bus.rounds(70);
        Due.messageIs("the last connection", bus, 7, Buses.message(300));
    }

    private static void framesOfTheOneBeforeAreOfNoMessage() {
        StuffedBus bus = connected(0);
        Buses.send(bus, 0, 7);
        bus.connect(0, 0, 1, X, Y, 0);
        bus.round();
        Due.aboutIs("it came, but none was sent", bus, 0, 0, 0, 0, 0, 0, 0, 1, 1);
        Buses.send(bus, 0, Buses.message(30));
        bus.connect(0, 0, 1, X + 1, Y + 1, 0);
        bus.connect(1, 0, 1, X, Y, 0);
        bus.rounds(3);
        Due.aboutIs("none of the new one's", bus, 0, 0, 0, 0, 0, 0, 0, 0, 0);
        Check.equal("none of the other one's", bus.about(1, 0), 0);
        Check.equal("but it is heard there", bus.about(1, 4), 1);
    }

    private static void connectRefuses() {
        StuffedBus bus = connected(0);
        Check.refuses("-1", IndexOutOfBoundsException.class, () -> bus.connect(-1, 0, 1, 1, 2, 0));
        Check.refuses("8", IndexOutOfBoundsException.class, () -> bus.connect(8, 0, 0, 1, 1, 16));
        Check.refuses("from -1", IndexOutOfBoundsException.class, () -> bus.connect(1, -1, 1, 1, 1, 0));
        Check.refuses("from 6", IndexOutOfBoundsException.class, () -> bus.connect(1, 6, 1, 1, 2, 0));
        Check.refuses("to -1", IndexOutOfBoundsException.class, () -> bus.connect(1, 0, -1, 1, 2, 16));
        Check.refuses("to 6", IndexOutOfBoundsException.class, () -> bus.connect(1, 6, 6, 1, 2, 0));
        int[][] wrong = {
            {1, 3, 3, 1, 2, 0}, {1, 0, 1, -1, 2, 0}, {1, 0, 1, 2048, 2, 0}, {1, 0, 1, 1, -1, 0},
            {1, 0, 1, 1, 2048, 0}, {1, 0, 1, 1, 1, 0}, {1, 0, 1, X, 2, 0}, {1, 0, 1, Y, 2, 0},
            {1, 0, 1, 1, X, 0}, {1, 0, 1, 1, Y, 0}, {1, 0, 1, X, Y, 0}, {1, 0, 1, 1, 2, -1},
            {1, 0, 1, 1, 2, 16}, {0, 0, 1, X, X, 0}};
        for (int[] w : wrong) {
            Check.refuses("connect " + java.util.Arrays.toString(w), IllegalArgumentException.class,
                    () -> bus.connect(w[0], w[1], w[2], w[3], w[4], w[5]));
        }
        Check.refuses("none is made", IndexOutOfBoundsException.class, () -> bus.about(1, 0));
        Buses.send(bus, 0, 1);
        Check.refuses("0 again", IllegalArgumentException.class, () -> bus.connect(0, 0, 1, 1, 2, 16));
        Check.equal("still sending", bus.about(0, 0), 1);
        bus.connect(1, 0, 1, 0, 2047, 15);
        bus.connect(0, 3, 2, 5, 6, 0);
        bus.connect(2, 0, 1, X, Y, 0);
        Check.equal("freed identifiers", bus.about(2, 0), 0);
    }

    private static void sendRefuses() {
        StuffedBus bus = connected(0);
        Check.refuses("-1", IndexOutOfBoundsException.class, () -> bus.send(-1));
        Check.refuses("8", IndexOutOfBoundsException.class, () -> bus.send(8));
        Check.refuses("none", IndexOutOfBoundsException.class, () -> bus.send(1));
        Check.refuses("an empty tape", IllegalArgumentException.class, () -> bus.send(0));
        Buses.tape(bus, Buses.message(401));
        Check.refuses("401", IllegalArgumentException.class, () -> bus.send(0));
        bus.end(400);
        bus.send(0);
        Check.equal("the tape is empty then", bus.feed(0, 0, 0, 0, 0), 20);
        Check.refuses("sending", IllegalStateException.class, () -> bus.send(0));
        bus.end(0);
        Check.refuses("sending, an empty tape", IllegalStateException.class, () -> bus.send(0));
        bus.round();
        Check.refuses("waiting", IllegalStateException.class, () -> bus.send(0));
        bus.connect(1, 3, 4, 1, 2, 0);
        for (int i = 0; i < 16; i++) {
            Buses.frame(bus, 3, 1000);
        }
        Buses.tape(bus, 1, 2, 3);
        Check.refuses("full", IllegalStateException.class, () -> bus.send(1));
        Check.equal("nothing changed", bus.about(1, 0), 0);
        Check.equal("the tape stays", bus.feed(0, 0, 0, 0, 0), 23);
        Buses.tape(bus);
        Check.refuses("full, an empty tape", IllegalStateException.class, () -> bus.send(1));
    }

    private static void aboutAndByteAtRefuse() {
        StuffedBus bus = connected(0);
        Check.refuses("about -1 -1", IndexOutOfBoundsException.class, () -> bus.about(-1, -1));
        Check.refuses("about 8 0", IndexOutOfBoundsException.class, () -> bus.about(8, 0));
        Check.refuses("about 1 9", IndexOutOfBoundsException.class, () -> bus.about(1, 9));
        Check.refuses("about 0 -1", IllegalArgumentException.class, () -> bus.about(0, -1));
        Check.refuses("about 0 9", IllegalArgumentException.class, () -> bus.about(0, 9));
        Check.refuses("byteAt -1 0", IndexOutOfBoundsException.class, () -> bus.byteAt(-1, 0));
        Check.refuses("byteAt 8 0", IndexOutOfBoundsException.class, () -> bus.byteAt(8, 0));
        Check.refuses("byteAt 1 0", IndexOutOfBoundsException.class, () -> bus.byteAt(1, 0));
        Check.refuses("byteAt 0 0", IndexOutOfBoundsException.class, () -> bus.byteAt(0, 0));
    }
}
