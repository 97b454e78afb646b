/** Promises 1 (what is empty at first), 2 (feed), 3 (end), 15 (coded) and 16 (bit). */
public final class TapeAndBitsTest {
    private TapeAndBitsTest() {
    }

    public static void main(String[] args) {
        aNewObjectIsEmpty();
        feedTakesTwentyBytesTheHighestFirst();
        feedRefusesMoreThan420();
        endKeepsTheFirstBytes();
        codedStuffsTheBits();
        codedLeavesTheTape();
        codedRefusesWhatIsNoFrame();
        bitsAreThoseOfTheLatestCoded();
        Check.finish();
    }

    private static void aNewObjectIsEmpty() {
        StuffedBus bus = new StuffedBus();
        Check.equal("NONE", StuffedBus.NONE, -1);
        for (int node = 0; node < 6; node++) {
            for (int what = 0; what < 4; what++) {
                Check.equal("node " + node + " " + what, bus.node(node, what), 0);
            }
        }
        for (int c = 0; c < 8; c++) {
            int connection = c;
            Check.refuses("about " + c, IndexOutOfBoundsException.class, () -> bus.about(connection, 0));
        }
        Check.equal("latest 0", bus.latest(0), -1);
        Check.equal("latest 1", bus.latest(1), -1);
        Check.equal("latest 2", bus.latest(2), 0);
        Check.equal("latest 3", bus.latest(3), 0);
        Check.refuses("bit 0", IndexOutOfBoundsException.class, () -> bus.bit(0));
        Check.refuses("end 1", IllegalArgumentException.class, () -> bus.end(1));
        bus.end(0);
        Check.equal("coded of an empty tape", bus.coded(0), 40);
        Check.equal("a round of nothing", bus.round(), 0);
    }

    private static void feedTakesTwentyBytesTheHighestFirst() {
        StuffedBus bus = new StuffedBus();
        Check.equal("feed", bus.feed(0x01020304, 0x80ff0005, 0, -1, 0x7f000001), 20);
        bus.connect(0, 0, 1, 3, 4, 0);
        bus.send(0);
        bus.rounds(5);
        int[] due = {1, 2, 3, 4, 128, 255, 0, 5, 0, 0, 0, 0, 255, 255, 255, 255, 127, 0, 0, 1};
        for (int i = 0; i < 20; i++) {
            Check.equal("byte " + i, bus.byteAt(0, i), due[i]);
        }
    }

    private static void feedRefusesMoreThan420() {
        StuffedBus bus = new StuffedBus();
        for (int i = 1; i <= 21; i++) {
            Check.equal("feed " + i, bus.feed(i, i, i, i, i), 20 * i);
        }
        Check.refuses("440", UnsupportedOperationException.class, () -> bus.feed(0, 0, 0, 0, 0));
        bus.end(420);
        bus.end(401);
        Check.refuses("421", UnsupportedOperationException.class, () -> bus.feed(0, 0, 0, 0, 0));
        bus.end(400);
        Check.equal("420 again", bus.feed(0, 0, 0, 0, 0), 420);
    }

    private static void endKeepsTheFirstBytes() {
        StuffedBus bus = new StuffedBus();
        bus.feed(0x05060708, 0, 0, 0, 0);
        Check.refuses("end 21", IllegalArgumentException.class, () -> bus.end(21));
        Check.refuses("end -1", IllegalArgumentException.class, () -> bus.end(-1));
        Check.refuses("end least", IllegalArgumentException.class, () -> bus.end(Integer.MIN_VALUE));
        bus.end(3);
        Check.refuses("end 4", IllegalArgumentException.class, () -> bus.end(4));
        Check.equal("feed", bus.feed(0x01000000, 0, 0, 0, 0), 23);
        bus.end(4);
        bus.connect(0, 0, 1, 3, 4, 0);
        bus.send(0);
        bus.round();
        Check.equal("length", bus.about(0, 8), 4);
        Check.equal("byte 2", bus.byteAt(0, 2), 7);
        Check.equal("byte 3", bus.byteAt(0, 3), 1);
    }

    /** The rows were reckoned apart from the class, the check by division of polynomials. */
    private static void codedStuffsTheBits() {
        codes("0000010000010000010000010000010000010000", 0);
        codes("0000010000010100000100010001000010011", 1);
        codes("0111110111110100000100010011100101111", 2047);
        codes("00000111001000001011000001010100000100100000101000001001100000110000010010101001010"
                + "1011101", 100, 5, 1, 2, 3, 4, 5);
        codes("0101010101010001000111110111110111110111110111110111110111110111110111110111110111"
                + "11011111011110011100111110111", 1365, 255, 255, 255, 255, 255, 255, 255, 255);
        // A bit is put in behind the last one of the check, too.
        codes("00000100000100000100010001110100000100111000001", 0, 29);
    }

    private static void codes(String due, int identifier, int... bytes) {
        StuffedBus bus = new StuffedBus();
        Buses.tape(bus, bytes);
        Check.equal("coded " + identifier, bus.coded(identifier), due.length());
        for (int i = 0; i < due.length(); i++) {
            Check.equal("bit " + i + " of " + identifier, bus.bit(i), due.charAt(i) - '0');
        }
        Check.refuses("bit behind", IndexOutOfBoundsException.class, () -> bus.bit(due.length()));
        Check.refuses("bit -1", IndexOutOfBoundsException.class, () -> bus.bit(-1));
    }

    private static void codedLeavesTheTape() {
        StuffedBus bus = new StuffedBus();
        Buses.tape(bus, 29);
        Check.equal("once", bus.coded(0), 47);
        Check.equal("again", bus.coded(0), 47);
        Check.equal("feed behind it", bus.feed(0, 0, 0, 0, 0), 21);
    }

    private static void codedRefusesWhatIsNoFrame() {
        StuffedBus bus = new StuffedBus();
        Check.refuses("2048", IllegalArgumentException.class, () -> bus.coded(2048));
        Check.refuses("-1", IllegalArgumentException.class, () -> bus.coded(-1));
        Buses.tape(bus, 1, 2, 3, 4, 5, 6, 7, 8, 9);
        Check.refuses("nine bytes", IllegalArgumentException.class, () -> bus.coded(0));
        bus.end(8);
        Check.isTrue("eight bytes", bus.coded(0) > 98);
    }

    private static void bitsAreThoseOfTheLatestCoded() {
        StuffedBus bus = new StuffedBus();
        bus.coded(2047);
        Check.refuses("2048", IllegalArgumentException.class, () -> bus.coded(2048));
        Buses.frame(bus, 0, 0, 1, 2, 3);
        bus.round();
        Check.equal("bit 1 after a refusal and a round", bus.bit(1), 1);
        Check.refuses("bit 37", IndexOutOfBoundsException.class, () -> bus.bit(37));
        bus.coded(0);
        Check.equal("bit 1", bus.bit(1), 0);
        Check.equal("bit 39", bus.bit(39), 0);
    }
}
