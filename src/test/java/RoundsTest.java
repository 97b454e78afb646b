/** Promises 6 (frame), 7 (spoil), 8 (round), 9 (rounds), 10 (latest), 11 (node) and 12 (restart). */
public final class RoundsTest {
    // Its twelve plain bits end with five 0s: bit 12 is put in right behind them, bit 13 is a plain 0.
    private static final int STUFFED_BEHIND = 0b10101100000;

    private RoundsTest() {
    }

    public static void main(String[] args) {
        aFrameIsSent();
        roundsWithoutFramesHaveNoBits();
        boxesAreFirstInFirstOut();
        frameRefuses();
        theLeastIdentifierGoesFirst();
        sameFramesGoTogether();
        otherBytesUnderOneIdentifierAreAnError();
        otherLengthsUnderOneIdentifierAreAnError();
        spoiltBitsBeforeTheEnd();
        spoiltBitsRightBehindTheIdentifier();
        allThatSendLoseAtASpoiltBit();
        spoiltAmongSeveralSenders();
        spoiltBitsOfTheEnd();
        theLastBitIsNotHeard();
        nobodyAnswers();
        spoilTellsOneBitOfTheNextRound();
        countsAndOff();
        countOf255IsNotOff();
        anOffNodeTakesNoPart();
        roundsAddUp();
        wrongNumbers();
        Check.finish();
    }

    private static void aFrameIsSent() {
        StuffedBus bus = new StuffedBus();
        Check.equal("in the box", Buses.frame(bus, 3, 0), 1);
        Check.equal("node 3 has it", bus.node(3, 3), 1);
        Check.equal("round", bus.round(), 50);
        Due.latestIs("sent", bus, 0, 3, 0, 50);
        Check.equal("left the box", bus.node(3, 3), 0);
        Due.countsAre("never below 0", bus, 3, 0, 0);
        Due.countsAre("never below 0", bus, 2, 0, 0);
        Check.equal("frame of 2047", Buses.frame(bus, 3, 2047), 1);
        Check.equal("round", bus.round(), 47);
        Due.latestIs("sent", bus, 2047, 3, 0, 47);
    }

    private static void roundsWithoutFramesHaveNoBits() {
        StuffedBus bus = new StuffedBus();
        Buses.over(bus, 0, 5);
        Check.equal("nothing", bus.round(), 0);
        Due.latestIs("nothing", bus, -1, -1, 0, 0);
    }

    private static void boxesAreFirstInFirstOut() {
        StuffedBus bus = new StuffedBus();
        for (int turn = 0; turn < 3; turn++) {
            for (int i = 0; i < 16; i++) {
                Check.equal("in the box", Buses.frame(bus, 1, 900 - 7 * i), i + 1);
            }
            for (int i = 0; i < 16; i++) {
                bus.round();
                Check.equal("goes " + i, bus.latest(0), 900 - 7 * i);
                Check.equal("left", bus.node(1, 3), 15 - i);
            }
        }
    }

    private static void frameRefuses() {
        StuffedBus bus = new StuffedBus();
        Buses.tape(bus, 1, 2, 3, 4, 5, 6, 7, 8, 9);
        Check.refuses("node 6", IndexOutOfBoundsException.class, () -> bus.frame(6, -1));
        Check.refuses("node -1", IndexOutOfBoundsException.class, () -> bus.frame(-1, 0));
        Check.refuses("nine bytes", IllegalArgumentException.class, () -> bus.frame(0, 0));
        bus.end(8);
        Check.refuses("2048", IllegalArgumentException.class, () -> bus.frame(0, 2048));
        Check.refuses("-1", IllegalArgumentException.class, () -> bus.frame(0, -1));
        Check.equal("eight bytes", bus.frame(0, 7), 1);
        Check.equal("the tape is empty then", bus.feed(0, 0, 0, 0, 0), 20);
        bus.end(0);
        for (int i = 2; i <= 16; i++) {
            bus.frame(0, 7);
        }
        Check.refuses("full", IllegalStateException.class, () -> bus.frame(0, 7));
        Check.refuses("full, no identifier", IllegalStateException.class, () -> bus.frame(0, 2048));
        Check.equal("still sixteen", bus.node(0, 3), 16);
        Buses.tape(bus, 1, 2);
        Check.refuses("full", IllegalStateException.class, () -> bus.frame(0, 7));
        Check.equal("the tape stays", bus.feed(0, 0, 0, 0, 0), 22);
    }

    private static void theLeastIdentifierGoesFirst() {
        StuffedBus bus = new StuffedBus();
        Buses.frame(bus, 0, 1025, 0);
        Buses.frame(bus, 4, 1024, 255);
        Buses.frame(bus, 5, 31, 9);
        Buses.frame(bus, 2, 32, 9);
        int[] identifiers = {31, 32, 1024, 1025};
        int[] nodes = {5, 2, 4, 0};
        int[] bytes = {9, 9, 255, 0};
        for (int i = 0; i < 4; i++) {
            bus.round();
            int bits = Buses.bitsOf(identifiers[i], bytes[i]);
            Due.latestIs("turn " + i, bus, identifiers[i], nodes[i], 0, bits);
        }
        for (int node = 0; node < 6; node++) {
            Due.countsAre("no error", bus, node, 0, 0);
        }
    }

    private static void sameFramesGoTogether() {
        StuffedBus bus = new StuffedBus();
        Buses.frame(bus, 5, 77, 1);
        Buses.frame(bus, 2, 77, 1);
        bus.spoil(0);
        bus.round();
        Due.countsAre("both sent", bus, 5, 8, 0);
        Due.countsAre("both sent", bus, 2, 8, 0);
        Buses.frame(bus, 2, 78, 1);
        bus.round();
        Due.latestIs("of several the least", bus, 77, 2, 0, Buses.bitsOf(77, 1));
        Check.equal("left box 5", bus.node(5, 3), 0);
        Check.equal("left box 2", bus.node(2, 3), 1);
        Due.countsAre("both one less", bus, 5, 7, 0);
        Due.countsAre("both one less", bus, 2, 7, 0);
        Due.countsAre("others heard", bus, 0, 0, 0);
    }

    private static void otherBytesUnderOneIdentifierAreAnError() {
        StuffedBus bus = new StuffedBus();
        Buses.frame(bus, 0, 9, 1, 2);
        Buses.frame(bus, 3, 9, 1, 3);
        Buses.frame(bus, 4, 10, 1);
        Check.equal("ends at the first other bit", bus.round(), 39);
        Due.latestIs("spoilt", bus, -1, -1, 1, 39);
        Due.countsAre("sent", bus, 0, 8, 0);
        Due.countsAre("sent", bus, 3, 8, 0);
        Due.countsAre("lost before, so heard", bus, 4, 0, 1);
        Due.countsAre("heard", bus, 1, 0, 1);
        Check.equal("stays in the box", bus.node(0, 3), 1);
    }

    private static void otherLengthsUnderOneIdentifierAreAnError() {
        StuffedBus bus = new StuffedBus();
        Buses.frame(bus, 0, 1365, 0);
        Buses.frame(bus, 1, 1365);
        // 12 bits, 000, then 0000 or 0001, with a 1 put in behind the fifth 0.
        Check.equal("at the last bit of the length", bus.round(), 12 + 3 + 4 + 1);
        Check.equal("error", bus.latest(2), 1);
    }

    private static void spoils(
            String when, int identifier, int bit, int error, int bits, int sent, int heard) {
        StuffedBus bus = new StuffedBus();
        Buses.frame(bus, 0, identifier);
        bus.spoil(bit);
        Check.equal(when + ": bits", bus.round(), bits);
        Due.latestIs(when, bus, -1, -1, error, bits);
        Due.countsAre(when, bus, 0, sent, heard);
        Due.countsAre(when, bus, 5, 0, 1);
        Check.equal(when + ": stays", bus.node(0, 3), 1);
        bus.round();
        Check.equal(when + ": goes then", bus.latest(0), identifier);
        Due.countsAre(when + " and sent again", bus, 0, sent > 0 ? 7 : 0, heard);
        Due.countsAre(when + " and sent again", bus, 5, 0, 0);
    }

    private static void spoiltBitsBeforeTheEnd() {
        spoils("the first bit", 0, 0, 1, 1, 8, 0);
        spoils("a 0 of the identifier", 0, 6, 1, 7, 8, 0);
        spoils("a 1 put in among the identifier", 0, 5, 2, 6, 0, 1);
        spoils("a 0 put in among the identifier", 2047, 6, 1, 7, 8, 0);
        spoils("a 1 of the identifier", 2047, 1, 2, 8, 0, 1);
        spoils("the last 1 of the identifier", 2047, 13, 2, 20, 0, 1);
        spoils("a 1 put in behind", 0, 17, 1, 18, 8, 0);
        spoils("the last bit before the end", 0, 39, 1, 40, 8, 0);
        spoils("the last bit before the end, a 1", 2047, 36, 1, 37, 8, 0);
    }

    private static void spoiltBitsRightBehindTheIdentifier() {
        spoils("the last 0 of the identifier", STUFFED_BEHIND, 11, 1, 12, 8, 0);
        spoils("a 1 put in right behind it", STUFFED_BEHIND, 12, 2, 13, 0, 1);
        spoils("the first 0 behind that", STUFFED_BEHIND, 13, 1, 14, 8, 0);
        // 0 11111 0 11111 0 1, then 000 00: the 1 that is put in behind these is a sender's own.
        spoils("a 1 put in not right behind it", 2047, 19, 1, 20, 8, 0);
    }

    private static void allThatSendLoseAtASpoiltBit() {
        StuffedBus bus = new StuffedBus();
        Buses.frame(bus, 4, 2047, 255);
        Buses.frame(bus, 5, 2047, 255);
        bus.spoil(4);
        Check.equal("six 1s behind it", bus.round(), 11);
        Due.latestIs("none sends any more", bus, -1, -1, 2, 11);
        for (int node = 0; node < 6; node++) {
            Due.countsAre("all hear", bus, node, 0, 1);
        }
    }

    private static void spoiltAmongSeveralSenders() {
        StuffedBus bus = new StuffedBus();
        Buses.frame(bus, 0, 0b01000000000);
        Buses.frame(bus, 1, 0b00100000000);
        bus.spoil(2);
        bus.round();
        // Node 0 sends 1 and reads 1, node 1 sends 0 and reads 1; both still send then.
        Due.latestIs("read as 1", bus, -1, -1, 1, 3);
        Due.countsAre("sends 1", bus, 0, 8, 0);
        Due.countsAre("sends 0", bus, 1, 8, 0);
        Buses.frame(bus, 2, 0b10000000000);
        bus.spoil(2);
        bus.round();
        Due.latestIs("once more", bus, -1, -1, 1, 3);
        Due.countsAre("lost one bit before", bus, 2, 0, 2);
    }

    private static void spoiltBitsOfTheEnd() {
        for (int place = 0; place < 10; place++) {
            StuffedBus bus = new StuffedBus();
            Buses.frame(bus, 0, 0);
            for (int i = 0; i < 3; i++) {
                bus.spoil(0);
                bus.round();
            }
            bus.spoil(40 + place);
            Check.equal("ends at place " + place, bus.round(), 41 + place);
            Due.latestIs("place " + place, bus, -1, -1, place == 1 ? 4 : 3, 41 + place);
            Due.countsAre("place " + place, bus, 0, 32, 0);
            Due.countsAre("place " + place, bus, 1, 0, place == 9 ? 2 : 4);
            Check.equal("stays", bus.node(0, 3), 1);
        }
    }

    private static void theLastBitIsNotHeard() {
        StuffedBus bus = new StuffedBus();
        bus.connect(0, 0, 1, 0, 1, 0);
        Buses.frame(bus, 0, 0, 1, 2);
        int bits = Buses.bitsOf(0, 1, 2);
        bus.spoil(bits - 2);
        bus.round();
        Check.equal("the last but one was wrong", bus.about(0, 7), 0);
        Due.countsAre("not heard", bus, 1, 0, 1);
        bus.spoil(bits - 1);
        bus.round();
        Check.equal("only the last was wrong", bus.about(0, 7), 1);
        Due.countsAre("heard, so one less", bus, 1, 0, 0);
        bus.spoil(bits);
        bus.round();
        Check.equal("heard once more", bus.about(0, 7), 2);
        Check.equal("sent", bus.latest(0), 0);
    }

    private static StuffedBus withNodeFiveAlone() {
        StuffedBus bus = new StuffedBus();
        Buses.switchOff(bus, 0, 1);
        Buses.switchOff(bus, 2, 3);
        Buses.switchOff(bus, 4, 5);
        bus.restart(5);
        return bus;
    }

    private static void nobodyAnswers() {
        StuffedBus bus = withNodeFiveAlone();
        Buses.frame(bus, 5, 0);
        Check.equal("the answer is 1", bus.round(), 42);
        Due.latestIs("no answer", bus, -1, -1, 4, 42);
        Due.countsAre("no answer", bus, 5, 8, 0);
        bus.spoil(41);
        Check.equal("a spoilt answer is one", bus.round(), 50);
        Due.latestIs("sent", bus, 0, 5, 0, 50);
        Due.countsAre("sent", bus, 5, 7, 0);
        StuffedBus all = new StuffedBus();
        for (int node = 0; node < 6; node++) {
            Buses.frame(all, node, 3, 3);
        }
        all.round();
        Check.equal("all send, none hears", all.latest(2), 4);
        Check.equal("all count", all.node(5, 0), 8);
        StuffedBus most = new StuffedBus();
        for (int node = 1; node < 6; node++) {
            Buses.frame(most, node, 3, 3);
        }
        most.round();
        Check.equal("node 0 hears", most.latest(1), 1);
    }

    private static void spoilTellsOneBitOfTheNextRound() {
        StuffedBus bus = new StuffedBus();
        bus.spoil(3);
        bus.spoil(0);
        bus.rounds(5);
        Buses.frame(bus, 0, 0);
        Check.equal("the one told last, kept by empty rounds", bus.round(), 1);
        Check.equal("and no other round", bus.round(), 50);
        bus.spoil(199);
        Buses.frame(bus, 0, 0);
        Check.equal("it has not so many", bus.round(), 50);
        Buses.frame(bus, 0, 0);
        bus.spoil(50);
        Check.equal("one too many", bus.round(), 50);
        Buses.frame(bus, 0, 0);
        bus.spoil(7);
        Check.refuses("-1", IllegalArgumentException.class, () -> bus.spoil(-1));
        Check.refuses("200", IllegalArgumentException.class, () -> bus.spoil(200));
        Check.equal("the one before stays", bus.round(), 8);
    }

    private static void countsAndOff() {
        StuffedBus bus = new StuffedBus();
        Buses.frame(bus, 0, 9, 2);
        Buses.frame(bus, 0, 10);
        Buses.frame(bus, 3, 9, 3);
        bus.rounds(31);
        Check.equal("31 errors", bus.node(0, 0), 248);
        Check.equal("not off", bus.node(0, 2), 0);
        Check.equal("two frames", bus.node(0, 3), 2);
        Check.equal("heard 31", bus.node(1, 1), 31);
        Check.isTrue("not off, so no", !bus.restart(0));
        Check.equal("and nothing changes", bus.node(0, 0), 248);
        bus.round();
        Check.equal("32 errors", bus.node(0, 0), 256);
        Check.equal("off", bus.node(0, 2), 1);
        Check.equal("emptied", bus.node(0, 3), 0);
        Check.refuses("off", IllegalStateException.class, () -> bus.frame(0, 1));
        Check.refuses("off, no identifier", IllegalStateException.class, () -> bus.frame(0, -1));
        Check.equal("nothing to send", bus.round(), 0);
        Check.isTrue("restart", bus.restart(0));
        Check.isTrue("it was not", !bus.restart(0));
        Check.equal("counts 0", bus.node(0, 0) + bus.node(0, 1), 0);
        Check.equal("not off", bus.node(0, 2), 0);
        Check.equal("the other one still is", bus.node(3, 2), 1);
        Check.equal("frame", Buses.frame(bus, 0, 10), 1);
        bus.round();
        Check.equal("sent", bus.latest(1), 0);
        Check.equal("heard 32 errors and a frame", bus.node(1, 1), 31);
    }

    private static void countOf255IsNotOff() {
        StuffedBus bus = new StuffedBus();
        Buses.frame(bus, 0, 0);
        for (int i = 0; i < 31; i++) {
            bus.spoil(0);
            bus.round();
        }
        bus.round();
        Buses.frame(bus, 0, 0);
        bus.spoil(0);
        bus.round();
        Check.equal("255", bus.node(0, 0), 255);
        Check.equal("is not off", bus.node(0, 2), 0);
        bus.spoil(0);
        bus.round();
        Check.equal("263", bus.node(0, 0), 263);
        Check.equal("is off", bus.node(0, 2), 1);
    }

    private static void anOffNodeTakesNoPart() {
        StuffedBus bus = new StuffedBus();
        spoiltRound(bus);
        Check.equal("heard an error", bus.node(0, 1), 1);
        Buses.switchOff(bus, 0, 1);
        Check.equal("it sent since", bus.node(0, 1), 1);
        spoiltRound(bus);
        Check.equal("hears no error", bus.node(0, 1), 1);
        bus.round();
        Check.equal("a frame is sent", bus.latest(0), 5);
        Check.equal("it hears no frame", bus.node(0, 1), 1);
        Check.equal("its counts stay", bus.node(0, 0), 256);
        bus.restart(0);
        spoiltRound(bus);
        Check.equal("hears again", bus.node(0, 1), 1);
    }

    private static void spoiltRound(StuffedBus bus) {
        Buses.frame(bus, 2, 5);
        bus.spoil(0);
        bus.round();
    }

    private static void roundsAddUp() {
        StuffedBus bus = new StuffedBus();
        Buses.frame(bus, 0, 0);
        Buses.frame(bus, 1, 2047);
        Check.equal("none", bus.rounds(0), 0);
        Due.latestIs("none", bus, -1, -1, 0, 0);
        Check.equal("two and empty ones", bus.rounds(1000), 97);
        Due.latestIs("the last one", bus, -1, -1, 0, 0);
        Buses.frame(bus, 0, 0);
        Buses.frame(bus, 1, 2047);
        Check.equal("both", bus.rounds(2), 97);
        Due.latestIs("the last one", bus, 2047, 1, 0, 47);
        bus.rounds(0);
        Due.latestIs("still", bus, 2047, 1, 0, 47);
        Buses.frame(bus, 0, 0);
        Check.refuses("-1", IllegalArgumentException.class, () -> bus.rounds(-1));
        Check.refuses("1001", IllegalArgumentException.class, () -> bus.rounds(1001));
        Check.equal("nothing went", bus.node(0, 3), 1);
    }

    private static void wrongNumbers() {
        StuffedBus bus = new StuffedBus();
        Check.refuses("latest -1", IllegalArgumentException.class, () -> bus.latest(-1));
        Check.refuses("latest 4", IllegalArgumentException.class, () -> bus.latest(4));
        Check.refuses("node 0 -1", IllegalArgumentException.class, () -> bus.node(0, -1));
        Check.refuses("node 0 4", IllegalArgumentException.class, () -> bus.node(0, 4));
        Check.refuses("node 6 4", IndexOutOfBoundsException.class, () -> bus.node(6, 4));
        Check.refuses("node -1 0", IndexOutOfBoundsException.class, () -> bus.node(-1, 0));
        Check.refuses("restart 6", IndexOutOfBoundsException.class, () -> bus.restart(6));
        Check.refuses("restart -1", IndexOutOfBoundsException.class, () -> bus.restart(-1));
    }
}
