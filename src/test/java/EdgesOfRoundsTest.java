/**
 * The boundary cases of 2 ROUNDS and of promises 6 to 12, a test for each sentence (which stands above
 * it). What is refused, and that it changes nothing, is in RefusalsTest too.
 */
public final class EdgesOfRoundsTest {
    private EdgesOfRoundsTest() {
    }

    public static void main(String[] args) {
        nodesAreSix();
        boxesTakeSixteen();
        firstInFirstOut();
        offAbove255();
        offByEightAtOnce();
        theBoxOfAnOffNodeIsEmptied();
        anOffNodeSendsNothing();
        anOffNodeHearsNothing();
        anOffNodeDoesNotAnswer();
        noneHasAny();
        timePasses();
        oneZeroIsEnough();
        spoiltIsReadTheOtherWay();
        lostInTheFirstTwelve();
        lostAmongAndRightBehind();
        notLostBehindThese();
        anotherBitThanItSends();
        sixTheSame();
        fiveTheSameAreNoError();
        errorOneGoesBeforeTwo();
        theAnswer();
        noneHears();
        anotherBitOfTheEnd();
        heardAtTheLastButOne();
        sentWhenAllWereRight();
        itLeavesAllBoxes();
        countsGoDownByOne();
        countsStayAtZero();
        anErrorCountsEightAndOne();
        oneLessAtTheLastBit();
        framesStayInTheBoxes();
        frameTellsHowMany();
        frameEmptiesTheTape();
        spoilOfTheFirstAndTheLast();
        spoilToldTwice();
        spoilOfOneTooMany();
        spoilIsUsedUp();
        spoilWaitsForBits();
        roundTellsItsBits();
        roundsOfNone();
        roundsOfAThousand();
        latestOfNoRound();
        latestOfARoundWithoutBits();
        latestOfAnError();
        latestOfSeveral();
        nodeTellsItsFour();
        restartOfOneThatIsOff();
        restartOfOneThatIsNot();
        fiveHundredAndTwelveCalls();
        Check.finish();
    }

    private static void spoiltRounds(StuffedBus bus, int n) {
        for (int i = 0; i < n; i++) {
            bus.spoil(0);
            bus.round();
        }
    }

    private static void fill(StuffedBus bus, int node, int identifier, int n) {
        for (int i = 0; i < n; i++) {
            Buses.frame(bus, node, identifier);
        }
    }

    private static String codedBits(int identifier, int... bytes) {
        StuffedBus bus = new StuffedBus();
        Buses.tape(bus, bytes);
        int count = bus.coded(identifier);
        StringBuilder text = new StringBuilder();
        for (int i = 0; i < count; i++) {
            text.append(bus.bit(i));
        }
        return text.toString();
    }

    // "There are NODES 0 .. 5"
    private static void nodesAreSix() {
        StuffedBus bus = new StuffedBus();
        for (int node = 0; node < 6; node++) {
            Check.equal("frame", Buses.frame(bus, node, 100 + node), 1);
            Check.isTrue("not off", !bus.restart(node));
        }
        for (int node = 0; node < 6; node++) {
            bus.round();
            Check.equal("sender", bus.latest(1), node);
        }
        for (int node : new int[] {-1, 6}) {
            Check.refuses("frame", IndexOutOfBoundsException.class, () -> bus.frame(node, 1));
            Check.refuses("node", IndexOutOfBoundsException.class, () -> bus.node(node, 0));
            Check.refuses("restart", IndexOutOfBoundsException.class, () -> bus.restart(node));
            Check.refuses("from", IndexOutOfBoundsException.class, () -> bus.connect(0, node, 1, 1, 2, 0));
            Check.refuses("to", IndexOutOfBoundsException.class, () -> bus.connect(0, 1, node, 1, 2, 0));
        }
    }

    // "each with a BOX of up to 16 frames"
    private static void boxesTakeSixteen() {
        StuffedBus bus = new StuffedBus();
        fill(bus, 2, 9, 15);
        Check.equal("the sixteenth", Buses.frame(bus, 2, 9), 16);
        Check.refuses("one more", IllegalStateException.class, () -> bus.frame(2, 9));
        Check.equal("the next node's own", Buses.frame(bus, 3, 9), 1);
        bus.round();
        Check.equal("one left it", bus.node(2, 3), 15);
        Check.equal("room again", Buses.frame(bus, 2, 9), 16);
        Check.refuses("full again", IllegalStateException.class, () -> bus.frame(2, 9));
    }

    // "(first in, first out)", also when a box is filled and emptied many times over
    private static void firstInFirstOut() {
        StuffedBus bus = new StuffedBus();
        int in = 0;
        int out = 0;
        while (out < 50) {
            while (in < out + 16 && in < 50) {
                Buses.frame(bus, 0, 1000 - in, in);
                in++;
            }
            for (int i = 0; i < 5; i++) {
                bus.round();
                Due.latestIs("frame " + out, bus, 1000 - out, 0, 0, Buses.bitsOf(1000 - out, out));
                out++;
            }
        }
        Check.equal("empty", bus.node(0, 3), 0);
    }

    // "a node whose first count is above 255 is OFF"
    private static void offAbove255() {
        StuffedBus bus = new StuffedBus();
        fill(bus, 0, 0, 3);
        spoiltRounds(bus, 31);
        bus.round();
        Check.equal("247", bus.node(0, 0), 247);
        spoiltRounds(bus, 1);
        Check.equal("255", bus.node(0, 0), 255);
        Check.equal("is not off", bus.node(0, 2), 0);
        Check.equal("two frames", bus.node(0, 3), 2);
        bus.round();
        Due.latestIs("it sends at 255", bus, 0, 0, 0, 50);
        spoiltRounds(bus, 1);
        Check.equal("262", bus.node(0, 0), 262);
        Check.equal("is off", bus.node(0, 2), 1);
    }

    // the same: 248 is not above it, 256 is
    private static void offByEightAtOnce() {
        StuffedBus bus = new StuffedBus();
        Buses.frame(bus, 0, 0);
        spoiltRounds(bus, 31);
        Check.equal("248", bus.node(0, 0), 248);
        Check.equal("is not off", bus.node(0, 2), 0);
        spoiltRounds(bus, 1);
        Check.equal("256", bus.node(0, 0), 256);
        Check.equal("is off", bus.node(0, 2), 1);
        Check.equal("the second count has no such bound", bus.node(1, 1), 32);
        bus.restart(0);
        for (int i = 0; i < 8; i++) {
            Buses.switchOff(bus, 0, 2);
            bus.restart(0);
            bus.restart(2);
        }
        Check.equal("heard 288", bus.node(1, 1), 288);
        Check.equal("is not off", bus.node(1, 2), 0);
    }

    // "its box is emptied"
    private static void theBoxOfAnOffNodeIsEmptied() {
        StuffedBus bus = new StuffedBus();
        fill(bus, 4, 7, 16);
        spoiltRounds(bus, 31);
        Check.equal("all are there", bus.node(4, 3), 16);
        spoiltRounds(bus, 1);
        Check.equal("none is", bus.node(4, 3), 0);
        bus.restart(4);
        Check.equal("nor later", bus.round(), 0);
        Check.equal("a new one is the first", Buses.frame(bus, 4, 8), 1);
        bus.round();
        Check.equal("it goes", bus.latest(0), 8);
    }

    // "and it takes no part": it does not send
    private static void anOffNodeSendsNothing() {
        StuffedBus bus = new StuffedBus();
        Buses.switchOff(bus, 0, 1);
        Check.equal("nothing goes", bus.rounds(5), 0);
        Check.refuses("nothing is taken", IllegalStateException.class, () -> bus.frame(0, 5));
        Due.countsAre("counts stay", bus, 0, 256, 0);
    }

    // "and it takes no part": it does not hear, neither frames nor errors
    private static void anOffNodeHearsNothing() {
        StuffedBus bus = new StuffedBus();
        bus.connect(0, 2, 0, 10, 20, 0);
        Buses.frame(bus, 2, 9);
        spoiltRounds(bus, 2);
        bus.round();
        Due.countsAre("heard one and two", bus, 0, 0, 1);
        Buses.switchOff(bus, 0, 1);
        Buses.frame(bus, 2, 9);
        spoiltRounds(bus, 1);
        Due.countsAre("no error", bus, 0, 256, 1);
        bus.round();
        Due.countsAre("no frame", bus, 0, 256, 1);
        Buses.over(bus, 2, 10, 1, 77);
        Check.equal("it went", bus.latest(0), 10);
        Check.equal("no message", bus.about(0, 7), 0);
    }

    // "and it takes no part": it does not answer
    private static void anOffNodeDoesNotAnswer() {
        StuffedBus bus = new StuffedBus();
        Buses.switchOff(bus, 0, 1);
        Buses.switchOff(bus, 2, 3);
        Buses.over(bus, 4, 0);
        Check.equal("node 5 still answers", bus.latest(0), 0);
        Buses.switchOff(bus, 4, 5);
        bus.restart(4);
        Buses.over(bus, 4, 0);
        Due.latestIs("none answers", bus, -1, -1, 4, 42);
    }

    // "or nothing happens (none has any"
    private static void noneHasAny() {
        StuffedBus bus = new StuffedBus();
        Buses.frame(bus, 0, 0);
        spoiltRounds(bus, 2);
        bus.round();
        Check.equal("no bits", bus.round(), 0);
        Check.equal("none in many", bus.rounds(100), 0);
        Due.countsAre("counts stay", bus, 0, 15, 0);
        Due.countsAre("counts stay", bus, 1, 0, 1);
    }

    // "time passes)": forty rounds without bits let a hearer gather, the next one does not
    private static void timePasses() {
        StuffedBus bus = new StuffedBus();
        bus.connect(0, 0, 1, 10, 20, 0);
        Buses.over(bus, 0, 10, 0x10, 8, 1, 2, 3, 4, 5, 6);
        bus.round();
        Check.equal("empty rounds", bus.rounds(39), 0);
        Check.equal("gathers", bus.about(0, 4), 1);
        Check.equal("one more", bus.round(), 0);
        Check.equal("does not", bus.about(0, 4), 0);
    }

    // "The bus has 0 when one of them sends 0, else 1"
    private static void oneZeroIsEnough() {
        StuffedBus bus = new StuffedBus();
        for (int node = 0; node < 5; node++) {
            Buses.frame(bus, node, 2047 - node);
        }
        Buses.frame(bus, 5, 1023);
        for (int node = 5; node >= 0; node--) {
            bus.round();
            Check.equal("the least", bus.latest(0), node == 5 ? 1023 : 2047 - node);
            Check.equal("its node", bus.latest(1), node);
        }
    }

    // "all read that, but at the bit that is SPOILT the other one"
    private static void spoiltIsReadTheOtherWay() {
        StuffedBus zero = new StuffedBus();
        Buses.frame(zero, 0, 1365);
        zero.spoil(2);
        zero.round();
        Due.latestIs("a 0 is read as 1", zero, -1, -1, 1, 3);
        StuffedBus one = new StuffedBus();
        Buses.frame(one, 0, 1365);
        one.spoil(1);
        one.round();
        Due.latestIs("a 1 is read as 0, and then there are six 1s", one, -1, -1, 2, 8);
        Due.countsAre("it had lost", one, 0, 0, 1);
    }

    // "In the first twelve plain bits .. a node that sends 1 and reads 0 sends no more, and hears"
    private static void lostInTheFirstTwelve() {
        for (int place = 0; place < 11; place++) {
            StuffedBus bus = new StuffedBus();
            bus.connect(0, 1, 0, 1365 & ~(1 << place), 2000, 0);
            Buses.frame(bus, 0, 1365 | 1 << place, 1, 2);
            Buses.over(bus, 1, 1365 & ~(1 << place), 1, 99);
            Due.latestIs("place " + place, bus, 1365 & ~(1 << place), 1, 0,
                    Buses.bitsOf(1365 & ~(1 << place), 1, 99));
            Due.countsAre("no error", bus, 0, 0, 0);
            Check.equal("it heard", bus.about(0, 7), 1);
            Check.equal("its own stays", bus.node(0, 3), 1);
        }
    }

    /** Contested is how many bits the first twelve are with what is put in among and right behind them. */
    private static void sweep(int contested, int identifier, int... bytes) {
        String bits = codedBits(identifier, bytes);
        for (int k = 0; k < bits.length(); k++) {
            StuffedBus bus = new StuffedBus();
            Buses.frame(bus, 3, identifier, bytes);
            bus.spoil(k);
            bus.round();
            String when = "bit " + k + " of " + identifier;
            boolean lost = bits.charAt(k) == '1' && k < contested;
            boolean sixZeros = bits.substring(Math.max(0, k - 5), k).equals("00000");
            Due.latestIs(when, bus, -1, -1, lost ? 2 : 1, lost && !sixZeros ? k + 7 : k + 1);
            Due.countsAre(when, bus, 3, lost ? 0 : 8, lost ? 1 : 0);
            Due.countsAre(when, bus, 0, 0, 1);
        }
    }

    // "and what is put in among or right behind them"
    private static void lostAmongAndRightBehind() {
        sweep(12, 1365);
        sweep(12, 1365, 255);
        sweep(13, 0b10101100000);
        sweep(13, 0b10101011111);
        sweep(13, 0b10000010101, 85);
        sweep(14, 0);
        sweep(14, 2047, 0, 0, 0, 0, 0, 0, 0, 0);
    }

    private static void errorAt(
            String when, int k, int error, int bits, int sent, int identifier, int... bytes) {
        StuffedBus bus = new StuffedBus();
        Buses.frame(bus, 0, identifier, bytes);
        bus.spoil(k);
        bus.round();
        Due.latestIs(when, bus, -1, -1, error, bits);
        Due.countsAre(when, bus, 0, sent, sent == 0 ? 1 : 0);
    }

    // the same, on both sides of its bound: the twelfth plain bit, the one put in behind it, and the next 1
    private static void notLostBehindThese() {
        errorAt("the twelfth", 11, 2, 18, 0, 1365, 1, 2, 3, 4, 5, 6, 7, 8);
        errorAt("the first 1 behind", 15, 1, 16, 8, 1365, 1, 2, 3, 4, 5, 6, 7, 8);
        errorAt("put in right behind", 12, 2, 13, 0, 0b10101100000);
        errorAt("put in later", 18, 1, 19, 8, 0b10101100000);
        errorAt("put in with one bit between", 16, 1, 17, 8, 0b10101110000);
    }

    // "A node that reads another bit than it sends otherwise, before the end: ERROR 1"
    private static void anotherBitThanItSends() {
        StuffedBus bus = new StuffedBus();
        Buses.frame(bus, 0, 1365, 1);
        Buses.frame(bus, 1, 1365, 3);
        bus.round();
        // 12 bits, 00000(1)01, 00000(1)0, and the bit that is not the same.
        Due.latestIs("of two that send", bus, -1, -1, 1, 12 + 8 + 7 + 1);
        Due.countsAre("who sent 0", bus, 0, 8, 0);
        Due.countsAre("who sent 1", bus, 1, 8, 0);
        int last = codedBits(0).length() - 1;
        errorAt("the last bit before the end", last, 1, last + 1, 8, 0);
        errorAt("the first bit", 0, 1, 1, 8, 0);
    }

    // "Six bits the same one behind the other, before the end: ERROR 2 (.. the bus has 1s then)"
    private static void sixTheSame() {
        errorAt("six 0s", 5, 2, 6, 0, 0);
        errorAt("one 1 lost, then six 1s", 1, 2, 8, 0, 2047);
        errorAt("the 1s before do not count", 5, 2, 12, 0, 2047);
        StuffedBus two = new StuffedBus();
        Buses.frame(two, 0, 0b10000000000);
        Buses.frame(two, 1, 0b10000000001);
        two.spoil(1);
        two.round();
        Due.latestIs("none of two sends any more", two, -1, -1, 2, 8);
        Due.countsAre("both hear", two, 0, 0, 1);
        Due.countsAre("both hear", two, 1, 0, 1);
    }

    // the same: five are none
    private static void fiveTheSameAreNoError() {
        // 0000 and the spoilt 1 make five 0s; the error comes with the sixth 1 behind them.
        errorAt("five 0s", 4, 2, 11, 0, 0b00010000000);
        StuffedBus bus = new StuffedBus();
        Buses.over(bus, 0, 2047, 255, 255);
        Check.equal("five 1s in each frame like this", bus.latest(2), 0);
    }

    // "(if it is not 1 at the same bit"
    private static void errorOneGoesBeforeTwo() {
        errorAt("six 1s, but it sent 0", 6, 1, 7, 8, 2047);
        errorAt("six 0s, but it sent 1 behind the identifier", 19, 1, 20, 8, 2047);
    }

    // "the answer is sent by those that hear, 0, and by senders as 1; it is read as 1: ERROR 4"
    private static void theAnswer() {
        errorAt("spoilt", 41, 4, 42, 8, 0);
        StuffedBus bus = new StuffedBus();
        for (int node = 1; node < 6; node++) {
            Buses.frame(bus, node, 3);
        }
        bus.round();
        Check.equal("one that hears is enough", bus.latest(2), 0);
        Buses.frame(bus, 0, 4);
        for (int node = 1; node < 6; node++) {
            Buses.frame(bus, node, 3);
        }
        bus.round();
        Check.equal("also one that lost", bus.latest(2), 0);
    }

    // the same, when all send: nobody sends 0
    private static void noneHears() {
        StuffedBus bus = new StuffedBus();
        for (int node = 0; node < 6; node++) {
            Buses.frame(bus, node, 0);
        }
        bus.round();
        Due.latestIs("all send", bus, -1, -1, 4, 42);
        for (int node = 0; node < 6; node++) {
            Due.countsAre("all send", bus, node, 8, 0);
        }
        bus.spoil(41);
        Check.equal("spoilt, it is an answer", bus.round(), 50);
        Due.latestIs("all sent", bus, 0, 0, 0, 50);
    }

    // "another bit of it is read as 0: ERROR 3"
    private static void anotherBitOfTheEnd() {
        for (int place = 0; place < 10; place++) {
            int due = place == 1 ? 4 : 3;
            errorAt("place " + place, 40 + place, due, 41 + place, 8, 0);
        }
    }

    // "A frame is HEARD by those that hear when the last bit but one was right"
    private static void heardAtTheLastButOne() {
        int bits = Buses.bitsOf(10, 1, 99);
        for (int k = bits - 10; k < bits; k++) {
            StuffedBus bus = new StuffedBus();
            bus.connect(0, 0, 1, 10, 20, 0);
            Buses.frame(bus, 0, 10, 1, 99);
            bus.spoil(k);
            bus.round();
            Check.equal("spoilt " + k, bus.about(0, 7), k == bits - 1 ? 1 : 0);
            bus.round();
            Check.equal("sent again", bus.about(0, 7), k == bits - 1 ? 2 : 1);
        }
    }

    // "it is SENT when all were"
    private static void sentWhenAllWereRight() {
        StuffedBus bus = new StuffedBus();
        Buses.frame(bus, 0, 0);
        bus.spoil(49);
        Check.equal("the last bit", bus.round(), 50);
        Due.latestIs("not sent", bus, -1, -1, 3, 50);
        Check.equal("still there", bus.node(0, 3), 1);
        bus.spoil(50);
        Check.equal("none of its bits", bus.round(), 50);
        Due.latestIs("sent", bus, 0, 0, 0, 50);
        Check.equal("it left the box", bus.node(0, 3), 0);
    }

    // "it leaves the box (of all that sent it)"
    private static void itLeavesAllBoxes() {
        StuffedBus bus = new StuffedBus();
        for (int node : new int[] {5, 3, 1}) {
            Buses.frame(bus, node, 50, 1);
            Buses.frame(bus, node, 50, 1);
        }
        Buses.frame(bus, 0, 51, 1);
        bus.round();
        for (int node : new int[] {5, 3, 1}) {
            Check.equal("one left it", bus.node(node, 3), 1);
        }
        Check.equal("not of one that lost", bus.node(0, 3), 1);
    }

    // "the sender's first count goes down by 1, the others' second ones by 1"
    private static void countsGoDownByOne() {
        StuffedBus bus = new StuffedBus();
        fill(bus, 0, 0, 2);
        Buses.frame(bus, 5, 0);
        spoiltRounds(bus, 2);
        bus.round();
        Due.countsAre("both sent", bus, 0, 15, 0);
        Due.countsAre("both sent", bus, 5, 15, 0);
        Due.countsAre("heard", bus, 1, 0, 1);
        bus.round();
        Due.countsAre("one sent", bus, 0, 14, 0);
        Due.countsAre("one heard", bus, 5, 15, 0);
    }

    // "(not below 0)"
    private static void countsStayAtZero() {
        StuffedBus bus = new StuffedBus();
        fill(bus, 0, 0, 16);
        spoiltRounds(bus, 1);
        for (int i = 1; i <= 8; i++) {
            bus.round();
            Due.countsAre("down to 0", bus, 0, 8 - i, 0);
            Due.countsAre("stays 0", bus, 1, 0, 0);
        }
        bus.round();
        Due.countsAre("stays 0", bus, 0, 0, 0);
        spoiltRounds(bus, 1);
        Due.countsAre("from 0 on", bus, 0, 8, 0);
        Due.countsAre("from 0 on", bus, 1, 0, 1);
    }

    // "each that sends then counts 8 more as sent, each that hears 1 more as heard"
    private static void anErrorCountsEightAndOne() {
        StuffedBus bus = new StuffedBus();
        Buses.frame(bus, 0, 3, 1);
        Buses.frame(bus, 1, 3, 1);
        Buses.frame(bus, 2, 4, 1);
        bus.spoil(40);
        bus.round();
        Due.countsAre("sends", bus, 0, 8, 0);
        Due.countsAre("sends too", bus, 1, 8, 0);
        Due.countsAre("lost", bus, 2, 0, 1);
        Due.countsAre("hears", bus, 3, 0, 1);
        bus.spoil(0);
        bus.round();
        Due.countsAre("sends then", bus, 2, 8, 1);
    }

    // "(but at the last bit, when the frame was heard, 1 less instead)", not below 0 either
    private static void oneLessAtTheLastBit() {
        StuffedBus bus = new StuffedBus();
        Buses.frame(bus, 0, 0);
        bus.spoil(49);
        bus.round();
        Due.countsAre("sender", bus, 0, 8, 0);
        Due.countsAre("0 stays", bus, 1, 0, 0);
        spoiltRounds(bus, 2);
        bus.spoil(49);
        bus.round();
        Due.countsAre("sender", bus, 0, 32, 0);
        Due.countsAre("2 less 1", bus, 1, 0, 1);
        bus.spoil(48);
        bus.round();
        Due.countsAre("the last but one", bus, 1, 0, 2);
    }

    // "frames stay in the boxes"
    private static void framesStayInTheBoxes() {
        StuffedBus bus = new StuffedBus();
        Buses.frame(bus, 0, 0, 5);
        Buses.frame(bus, 0, 1, 6);
        Buses.frame(bus, 1, 0, 5);
        for (int k : new int[] {0, 20, Buses.bitsOf(0, 5) - 10, Buses.bitsOf(0, 5) - 1}) {
            bus.spoil(k);
            bus.round();
            Check.equal("two", bus.node(0, 3), 2);
            Check.equal("one", bus.node(1, 3), 1);
        }
        Due.goes("the same one is the first", bus, 0, 0, 5);
        Due.goes("then the next", bus, 0, 1, 6);
    }

    // promise 6: "a frame that comes to a node's box: how many are in it"
    private static void frameTellsHowMany() {
        StuffedBus bus = new StuffedBus();
        for (int i = 1; i <= 16; i++) {
            Check.equal("frame", Buses.frame(bus, 0, 5), i);
        }
        bus.rounds(15);
        Check.equal("one is left", Buses.frame(bus, 0, 5), 2);
        bus.rounds(2);
        Check.equal("none is left", Buses.frame(bus, 0, 5), 1);
    }

    // promise 6: "The tape (which is empty then)"
    private static void frameEmptiesTheTape() {
        StuffedBus bus = new StuffedBus();
        Buses.frame(bus, 0, 5, 1, 2, 3, 4, 5, 6, 7, 8);
        Check.refuses("no byte", IllegalArgumentException.class, () -> bus.end(1));
        Check.equal("frame of no bytes", bus.frame(0, 5), 2);
        Check.equal("feed", bus.feed(0, 0, 0, 0, 0), 20);
        bus.end(0);
        Due.goes("eight", bus, 0, 5, 1, 2, 3, 4, 5, 6, 7, 8);
        Due.goes("none", bus, 0, 5);
    }

    // promise 7: "Bit k (from 0, the first one)"; "k is not 0 .. 199"
    private static void spoilOfTheFirstAndTheLast() {
        StuffedBus bus = new StuffedBus();
        Buses.frame(bus, 0, 0);
        bus.spoil(0);
        Check.equal("the first one", bus.round(), 1);
        bus.spoil(199);
        Check.equal("199 is taken", bus.round(), 50);
        Check.refuses("200", IllegalArgumentException.class, () -> bus.spoil(200));
        Check.refuses("-1", IllegalArgumentException.class, () -> bus.spoil(-1));
    }

    // promise 7: "(and no other, if one was told before)"
    private static void spoilToldTwice() {
        StuffedBus bus = new StuffedBus();
        Buses.frame(bus, 0, 0);
        bus.spoil(3);
        bus.spoil(7);
        Check.equal("the later one", bus.round(), 8);
        bus.spoil(3);
        bus.spoil(199);
        Check.equal("none of its bits", bus.round(), 50);
    }

    // promise 7: "nothing is, if it has not so many"
    private static void spoilOfOneTooMany() {
        StuffedBus bus = new StuffedBus();
        Buses.frame(bus, 0, 0);
        bus.spoil(49);
        bus.round();
        Check.equal("the last one", bus.latest(2), 3);
        bus.spoil(50);
        bus.round();
        Check.equal("one behind", bus.latest(2), 0);
    }

    // the same: it is used up by that round, also when an error ends it before
    private static void spoilIsUsedUp() {
        StuffedBus bus = new StuffedBus();
        Buses.frame(bus, 0, 0);
        Buses.frame(bus, 0, 0, 1, 2, 3, 4, 5, 6, 7, 8);
        bus.spoil(60);
        Check.equal("it has not so many", bus.round(), 50);
        bus.round();
        Check.equal("the next one is not spoilt", bus.latest(2), 0);
        Buses.frame(bus, 0, 1365, 0);
        Buses.frame(bus, 1, 1365);
        bus.rounds(30);
        bus.spoil(30);
        Check.equal("an error before it", bus.round(), 20);
        bus.rounds(1);
        Check.equal("both are off", bus.node(0, 2) + bus.node(1, 2), 2);
        Buses.over(bus, 2, 0);
        Check.equal("the next one is not spoilt", bus.latest(2), 0);
    }

    // promise 7: "of the next round that has bits"
    private static void spoilWaitsForBits() {
        StuffedBus bus = new StuffedBus();
        bus.spoil(5);
        bus.rounds(1000);
        Buses.frame(bus, 0, 1365);
        Check.equal("spoilt", bus.round(), 12);
    }

    // promise 8: "A round: how many bits it had."
    private static void roundTellsItsBits() {
        StuffedBus bus = new StuffedBus();
        Check.equal("none", bus.round(), 0);
        Buses.frame(bus, 0, 0);
        bus.spoil(0);
        Check.equal("one", bus.round(), 1);
        Check.equal("all", bus.round(), 50);
        Check.equal("none again", bus.round(), 0);
    }

    // promise 9: "n is not 0 .. 1000": 0 rounds are none
    private static void roundsOfNone() {
        StuffedBus bus = new StuffedBus();
        fill(bus, 0, 0, 2);
        bus.round();
        bus.spoil(0);
        String before = State.of(bus);
        Check.equal("no bits", bus.rounds(0), 0);
        Check.same("nothing happens", State.of(bus), before);
        Check.equal("the bit is still to be spoilt", bus.round(), 1);
        Check.refuses("-1", IllegalArgumentException.class, () -> bus.rounds(-1));
    }

    // promise 9: "n rounds: how many bits in all", up to 1000
    private static void roundsOfAThousand() {
        StuffedBus bus = new StuffedBus();
        fill(bus, 0, 0, 16);
        fill(bus, 1, 2047, 16);
        Check.equal("bits", bus.rounds(1000), 16 * 50 + 16 * 47);
        Check.refuses("1001", IllegalArgumentException.class, () -> bus.rounds(1001));
        fill(bus, 0, 0, 1);
        Check.equal("one", bus.rounds(1), 50);
    }

    // promise 10, before any round
    private static void latestOfNoRound() {
        StuffedBus bus = new StuffedBus();
        Due.latestIs("new", bus, StuffedBus.NONE, StuffedBus.NONE, 0, 0);
        Buses.frame(bus, 0, 0);
        Due.latestIs("a frame in a box is no round", bus, StuffedBus.NONE, StuffedBus.NONE, 0, 0);
        Check.refuses("-1", IllegalArgumentException.class, () -> bus.latest(-1));
        Check.refuses("4", IllegalArgumentException.class, () -> bus.latest(4));
    }

    // promise 10: "the identifier that was sent, NONE if none was .. its error, 0 without one"
    private static void latestOfARoundWithoutBits() {
        StuffedBus bus = new StuffedBus();
        Buses.over(bus, 0, 0);
        Due.latestIs("identifier 0 of node 0", bus, 0, 0, 0, 50);
        bus.round();
        Due.latestIs("none", bus, StuffedBus.NONE, StuffedBus.NONE, 0, 0);
        Buses.frame(bus, 5, 2047);
        bus.spoil(0);
        bus.rounds(2);
        Due.latestIs("identifier 2047 of node 5", bus, 2047, 5, 0, 47);
    }

    // the same, when a round ended by an error: none was sent
    private static void latestOfAnError() {
        StuffedBus bus = new StuffedBus();
        Buses.frame(bus, 0, 0);
        for (int k : new int[] {0, 39, 40, 41, 48, 49}) {
            bus.spoil(k);
            bus.round();
            int error = k < 40 ? 1 : k == 41 ? 4 : 3;
            Due.latestIs("spoilt " + k, bus, StuffedBus.NONE, StuffedBus.NONE, error, k + 1);
        }
        bus.round();
        Due.latestIs("then without one", bus, 0, 0, 0, 50);
    }

    // promise 10: "(of several the least)"
    private static void latestOfSeveral() {
        StuffedBus bus = new StuffedBus();
        for (int least = 4; least > 0; least--) {
            for (int node = 5; node >= least; node--) {
                Buses.frame(bus, node, 3);
            }
            Buses.frame(bus, 0, 4);
            bus.round();
            Check.equal("not one that lost", bus.latest(1), least);
            bus.round();
            Check.equal("which goes then", bus.latest(1), 0);
        }
    }

    // promise 11: "0 its first count, 1 its second one, 2 whether it is off (1), 3 frames in its box"
    private static void nodeTellsItsFour() {
        StuffedBus bus = new StuffedBus();
        fill(bus, 5, 7, 16);
        fill(bus, 0, 8, 1);
        spoiltRounds(bus, 1);
        int[][] due = {{8, 0, 0, 1}, {0, 1, 0, 0}, {0, 1, 0, 0}, {0, 1, 0, 0}, {0, 1, 0, 0}, {8, 0, 0, 16}};
        for (int node = 0; node < 6; node++) {
            for (int what = 0; what < 4; what++) {
                Check.equal("node " + node + " " + what, bus.node(node, what), due[node][what]);
            }
        }
        Check.refuses("-1", IllegalArgumentException.class, () -> bus.node(0, -1));
        Check.refuses("4", IllegalArgumentException.class, () -> bus.node(0, 4));
    }

    // promise 12: "A node that is off is not any more, with counts 0: whether it was."
    private static void restartOfOneThatIsOff() {
        StuffedBus bus = new StuffedBus();
        Buses.frame(bus, 2, 9);
        spoiltRounds(bus, 1);
        Buses.switchOff(bus, 0, 1);
        Due.countsAre("off", bus, 0, 256, 1);
        Check.isTrue("it was", bus.restart(0));
        Due.countsAre("counts 0", bus, 0, 0, 0);
        Check.equal("not any more", bus.node(0, 2), 0);
        Check.equal("the other one is", bus.node(1, 2), 1);
        Check.isTrue("it was not", !bus.restart(0));
        bus.rounds(2);
        Buses.over(bus, 0, 5);
        Check.equal("it sends", bus.latest(1), 0);
        Buses.frame(bus, 2, 6);
        spoiltRounds(bus, 1);
        Due.countsAre("it hears", bus, 0, 0, 1);
    }

    // the same: one that is not off keeps all
    private static void restartOfOneThatIsNot() {
        StuffedBus bus = new StuffedBus();
        Check.isTrue("new", !bus.restart(0));
        fill(bus, 0, 7, 2);
        fill(bus, 1, 8, 1);
        spoiltRounds(bus, 1);
        bus.spoil(0);
        String before = State.of(bus);
        for (int node = 0; node < 6; node++) {
            Check.isTrue("it was not", !bus.restart(node));
        }
        Check.same("nothing changes", State.of(bus), before);
        Check.equal("nor the bit to be spoilt", bus.round(), 1);
    }

    // "An object is used for at most 512 calls after it has been made": the last ones answer as the first
    private static void fiveHundredAndTwelveCalls() {
        StuffedBus bus = new StuffedBus();
        for (int call = 0; call < 508; call += 4) {
            Check.equal("frame", bus.frame(call / 4 % 6, 0), 1);
            bus.spoil(0);
            Check.equal("1000 rounds", bus.rounds(1000), 1 + 50);
            Check.equal("the last of them had none", bus.latest(3), 0);
        }
        Check.equal("call 509", bus.frame(5, 2047), 1);
        Check.equal("call 510", bus.round(), 47);
        Check.equal("call 511", bus.latest(0), 2047);
        Check.equal("call 512", bus.latest(1), 5);
    }
}
