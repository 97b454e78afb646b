import java.util.ArrayList;
import java.util.List;

/**
 * The boundary cases of 1 FRAMES AND BITS and of promises 1, 2, 3, 15 and 16, a test for each sentence
 * (which stands above it). What is refused, and that it changes nothing, is in RefusalsTest too.
 */
public final class EdgesOfFramesTest {
    private EdgesOfFramesTest() {
    }

    public static void main(String[] args) {
        identifiers();
        bytes();
        theIdentifierInEleven();
        howManyBytesInFour();
        theCheckIsZeroAtFirst();
        theHighestBitGoesOut();
        fiveTheSame();
        thosePutInCount();
        alsoBehindTheLastOne();
        theEnd();
        allIdentifiersAndLengths();
        aNewObject();
        feedTakesTwenty();
        theHighestFirst();
        feedUpTo420();
        endKeepsTheFirst();
        endOfAnEmptyTape();
        codedLeavesTheTape();
        codedOfAnEmptyTape();
        bitsOfTheLatest();
        noBitsBeforeCoded();
        Check.finish();
    }

    private static String bits(StuffedBus bus, int count) {
        StringBuilder text = new StringBuilder();
        for (int i = 0; i < count; i++) {
            text.append(bus.bit(i));
        }
        return text.toString();
    }

    private static String coded(int identifier, int... bytes) {
        StuffedBus bus = new StuffedBus();
        Buses.tape(bus, bytes);
        return bits(bus, bus.coded(identifier));
    }

    /** Takes out what was put in, which must be of the other sort than the five before. */
    private static String plain(int identifier, int... bytes) {
        String stuffed = coded(identifier, bytes);
        StringBuilder text = new StringBuilder();
        int alike = 0;
        for (int i = 0; i < stuffed.length(); i++) {
            boolean same = i > 0 && stuffed.charAt(i) == stuffed.charAt(i - 1);
            boolean putIn = alike == 5;
            Check.isTrue("put in at " + i + " of " + identifier, !putIn || !same);
            alike = same ? alike + 1 : 1;
            if (!putIn) {
                text.append(stuffed.charAt(i));
            }
        }
        return text.toString();
    }

    // "A FRAME has an IDENTIFIER, 0 .. 2047"
    private static void identifiers() {
        StuffedBus bus = new StuffedBus();
        Check.equal("coded 0", bus.coded(0), 40);
        Check.equal("coded 2047", bus.coded(2047), 37);
        Check.equal("frame 0", bus.frame(0, 0), 1);
        Check.equal("frame 2047", bus.frame(0, 2047), 2);
        for (int identifier : new int[] {-1, 2048}) {
            Check.refuses("coded", IllegalArgumentException.class, () -> bus.coded(identifier));
            Check.refuses("frame", IllegalArgumentException.class, () -> bus.frame(0, identifier));
        }
    }

    // "and up to 8 bytes"
    private static void bytes() {
        StuffedBus bus = new StuffedBus();
        Check.equal("no bytes", Buses.frame(bus, 0, 7), 1);
        Check.equal("eight", Buses.frame(bus, 0, 7, 1, 2, 3, 4, 5, 6, 7, 8), 2);
        Buses.tape(bus, 1, 2, 3, 4, 5, 6, 7, 8, 9);
        Check.refuses("frame of nine", IllegalArgumentException.class, () -> bus.frame(0, 7));
        Check.refuses("coded of nine", IllegalArgumentException.class, () -> bus.coded(7));
        Check.equal("plain bits of none", plain(1365).length(), 34);
        Check.equal("plain bits of eight", plain(1365, 1, 2, 3, 4, 5, 6, 7, 8).length(), 98);
    }

    // "PLAIN it is these bits (numbers with the highest bit first): 0; the identifier in eleven; 0, 0, 0"
    private static void theIdentifierInEleven() {
        Check.same("0", plain(0).substring(0, 15), "000000000000000");
        Check.same("1", plain(1).substring(0, 15), "000000000001000");
        Check.same("1024", plain(1024).substring(0, 15), "010000000000000");
        Check.same("2046", plain(2046).substring(0, 15), "011111111110000");
        Check.same("2047", plain(2047).substring(0, 15), "011111111111000");
    }

    // "how many bytes in four; these"
    private static void howManyBytesInFour() {
        Check.same("none", plain(1365).substring(15, 19), "0000");
        Check.same("one", plain(1365, 129).substring(15, 27), "0001" + "10000001");
        Check.same("seven", plain(1365, 1, 2, 3, 4, 5, 6, 7).substring(15, 19), "0111");
        Check.same("eight", plain(1365, 1, 2, 3, 4, 5, 6, 7, 8).substring(15, 19), "1000");
        Check.same("the last of eight", plain(1365, 1, 2, 3, 4, 5, 6, 7, 254).substring(75, 83), "11111110");
    }

    // "a CHECK in fifteen: a register of fifteen bits, 0 at first"
    private static void theCheckIsZeroAtFirst() {
        Check.same("of nothing but 0s", plain(0).substring(19), "000000000000000");
        Check.same("of one 1", plain(1).substring(19), checkOf("0000000000010000000"));
    }

    // "it moves up by one place, its highest bit going out, and if that and the bit are not the same,
    // it is xor 0x4599"
    private static void theHighestBitGoesOut() {
        for (int[] bytes : new int[][] {{}, {128}, {1}, {255, 255}, {0, 0, 0, 0, 0, 0, 0, 1}}) {
            String plain = plain(2047, bytes);
            int behind = plain.length() - 15;
            Check.same("check", plain.substring(behind), checkOf(plain.substring(0, behind)));
        }
    }

    private static String checkOf(String bits) {
        boolean[] register = new boolean[15];
        for (char bit : bits.toCharArray()) {
            boolean out = register[14];
            System.arraycopy(register, 0, register, 1, 14);
            register[0] = false;
            for (int place : new int[] {14, 10, 8, 7, 4, 3, 0}) {
                register[place] ^= out != (bit == '1');
            }
        }
        StringBuilder text = new StringBuilder();
        for (int place = 14; place >= 0; place--) {
            text.append(register[place] ? '1' : '0');
        }
        return text.toString();
    }

    // "STUFFED: whenever five bits one behind the other are the same .. , one of the other sort is put in"
    private static void fiveTheSame() {
        Check.same("four 0s", coded(0b00011011011).substring(0, 12), "000011011011");
        Check.same("five 0s", coded(0b00001101101).substring(0, 13), "0000011101101");
        Check.same("four 1s", coded(0b11110110110).substring(0, 12), "011110110110");
        Check.same("five 1s", coded(0b11111011011).substring(0, 13), "0111110011011");
        Check.same("six 1s", coded(0b11111101101).substring(0, 13), "0111110101101");
    }

    // "(counting those put in)"
    private static void thosePutInCount() {
        Check.same("a 1 put in, four 1s", coded(0b00001111011).substring(0, 14), "00000111110" + "011");
        Check.same("a 1 put in, three 1s", coded(0b00001110110).substring(0, 13), "00000" + "11110110");
        Check.same("a 0 put in, four 0s", coded(0b11111000010).substring(0, 14), "0111110" + "0000110");
        Check.same("on and on", coded(0).substring(0, 18), "000001000001000001");
    }

    // "(also behind the last one)"
    private static void alsoBehindTheLastOne() {
        Check.same("five 0s at last", coded(0, 29), "00000100000100000100010001110100000100111000001");
        int withOneMore = 0;
        for (int value = 0; value < 256; value++) {
            String stuffed = coded(7, value);
            boolean five = stuffed.endsWith("000001") || stuffed.endsWith("111110");
            boolean bare = stuffed.endsWith("00000") || stuffed.endsWith("11111");
            Check.isTrue("none is without it", !bare);
            withOneMore += five ? 1 : 0;
        }
        Check.isTrue("some have it", withOneMore > 0);
    }

    // "Behind these bits come THE END's: 1, the ANSWER, 1, and seven 1s."
    private static void theEnd() {
        StuffedBus bus = new StuffedBus();
        Buses.frame(bus, 0, 0);
        Check.equal("ten more than 40", bus.round(), 50);
        Buses.frame(bus, 0, 0, 29);
        Check.equal("ten more than 47", bus.round(), 57);
        for (int[] bytes : new int[][] {{}, {255}, {0, 0, 0, 0, 0, 0, 0, 0}}) {
            Buses.frame(bus, 0, 2047, bytes);
            Check.equal("ten more", bus.round(), coded(2047, bytes).length() + 10);
        }
    }

    private static int[] patterned(int length, int pattern) {
        int[] bytes = new int[length];
        for (int i = 0; i < length; i++) {
            bytes[i] = (pattern >> (i % 2 * 8)) & 255;
        }
        return bytes;
    }

    // all of the above at once, held against the model's rows; 0x83e0 and 0x0f87 put in the most
    private static void allIdentifiersAndLengths() {
        int longest = 0;
        for (int identifier = 0; identifier < 2048; identifier++) {
            for (int pattern : new int[] {0, 0xffff, 0x83e0, 0x0f87, 0x8778, 0x55aa}) {
                int[] bytes = patterned(identifier % 9, pattern);
                List<Integer> list = new ArrayList<>();
                for (int b : bytes) {
                    list.add(b);
                }
                String got = coded(identifier, bytes);
                Check.same("coded " + identifier, got, BusModel.stuffed(identifier, list));
                longest = Math.max(longest, got.length());
            }
        }
        Check.isTrue("long rows were among them: " + longest, longest >= 114);
    }

    // promise 1: "Boxes are empty, no errors, no connections, an empty tape."
    private static void aNewObject() {
        StuffedBus bus = new StuffedBus();
        Check.same("new", State.of(bus), "latest -1 -1 0 0; node 0 0 0 0 0; node 1 0 0 0 0; node 2 0 0 0 0; "
                + "node 3 0 0 0 0; node 4 0 0 0 0; node 5 0 0 0 0; coded ");
        Check.equal("feed", bus.feed(0, 0, 0, 0, 0), 20);
        Check.equal("nothing goes", new StuffedBus().rounds(1000), 0);
    }

    // promise 2: "Twenty bytes more of the tape .. : how many it has"
    private static void feedTakesTwenty() {
        StuffedBus bus = new StuffedBus();
        Check.equal("first", bus.feed(0, 0, 0, 0, 0), 20);
        bus.end(1);
        Check.equal("behind one", bus.feed(0, 0, 0, 0, 0), 21);
        bus.end(0);
        Check.equal("behind none", bus.feed(0, 0, 0, 0, 0), 20);
    }

    // promise 2: "the highest of each number first"
    private static void theHighestFirst() {
        StuffedBus bus = new StuffedBus();
        bus.connect(0, 0, 1, 1, 2, 0);
        bus.feed(Integer.MIN_VALUE, Integer.MAX_VALUE, -1, 0, 0x0102fe80);
        bus.send(0);
        bus.rounds(4);
        Due.messageIs("bytes are 0 .. 255", bus, 0,
                128, 0, 0, 0, 127, 255, 255, 255, 255, 255, 255, 255, 0, 0, 0, 0, 1, 2, 254, 128);
    }

    // promise 2: "UnsupportedOperationException: they would be more than 420."
    private static void feedUpTo420() {
        StuffedBus bus = new StuffedBus();
        for (int have = 20; have <= 420; have += 20) {
            Check.equal("feed", bus.feed(1, 2, 3, 4, 5), have);
        }
        Check.refuses("440", UnsupportedOperationException.class, () -> bus.feed(1, 2, 3, 4, 5));
        bus.end(401);
        Check.refuses("421", UnsupportedOperationException.class, () -> bus.feed(1, 2, 3, 4, 5));
        bus.end(400);
        Check.equal("420", bus.feed(1, 2, 3, 4, 5), 420);
        bus.end(399);
        Check.equal("419", bus.feed(1, 2, 3, 4, 5), 419);
        Check.refuses("439", UnsupportedOperationException.class, () -> bus.feed(1, 2, 3, 4, 5));
    }

    // promise 3: "The tape keeps its first n bytes. .. n is below 0, or it has not so many."
    private static void endKeepsTheFirst() {
        StuffedBus bus = new StuffedBus();
        bus.connect(0, 0, 1, 1, 2, 0);
        bus.feed(0x01020304, 0x05060708, 0, 0, 0);
        Check.refuses("21", IllegalArgumentException.class, () -> bus.end(21));
        Check.refuses("-1", IllegalArgumentException.class, () -> bus.end(-1));
        bus.end(20);
        bus.end(3);
        Check.refuses("4 of 3", IllegalArgumentException.class, () -> bus.end(4));
        bus.end(3);
        bus.feed(0x090a0b0c, 0, 0, 0, 0);
        bus.end(5);
        bus.send(0);
        bus.round();
        Due.messageIs("the first three, then new ones", bus, 0, 1, 2, 3, 9, 10);
    }

    // promise 3, of an empty tape
    private static void endOfAnEmptyTape() {
        StuffedBus bus = new StuffedBus();
        bus.end(0);
        Check.refuses("1 of 0", IllegalArgumentException.class, () -> bus.end(1));
        Check.refuses("-1 of 0", IllegalArgumentException.class, () -> bus.end(-1));
        bus.feed(0, 0, 0, 0, 0);
        bus.end(0);
        Check.refuses("1 of 0 again", IllegalArgumentException.class, () -> bus.end(1));
        Buses.frame(bus, 0, 5, 1, 2, 3);
        Check.refuses("1, the tape became a frame", IllegalArgumentException.class, () -> bus.end(1));
    }

    // promise 15: "a frame of the tape's bytes (which stay)"
    private static void codedLeavesTheTape() {
        StuffedBus bus = new StuffedBus();
        Buses.tape(bus, 1, 2, 3, 4, 5, 6, 7, 8);
        int count = bus.coded(2047);
        Check.equal("again", bus.coded(2047), count);
        bus.end(8);
        Check.refuses("nine", IllegalArgumentException.class, () -> bus.end(9));
        Check.equal("it is a frame still", bus.frame(0, 2047), 1);
        Check.equal("of the same bits", bus.round(), count + 10);
    }

    // promise 15, of an empty tape: "How many bits .. stuffed, without the end."
    private static void codedOfAnEmptyTape() {
        StuffedBus bus = new StuffedBus();
        Check.equal("0", bus.coded(0), 40);
        Check.same("0", bits(bus, 40), "0000010000010000010000010000010000010000");
        Check.equal("2047", bus.coded(2047), 37);
        Check.same("2047", bits(bus, 37), "0111110111110100000100010011100101111");
    }

    // promise 16: "Bit i of the latest coded(). IndexOutOfBoundsException."
    private static void bitsOfTheLatest() {
        StuffedBus bus = new StuffedBus();
        bus.coded(0);
        Check.equal("the first", bus.bit(0), 0);
        Check.equal("the last", bus.bit(39), 0);
        Check.refuses("behind it", IndexOutOfBoundsException.class, () -> bus.bit(40));
        Check.refuses("before the first", IndexOutOfBoundsException.class, () -> bus.bit(-1));
        bus.coded(2047);
        Check.equal("the last of a shorter one", bus.bit(36), 1);
        Check.refuses("behind it", IndexOutOfBoundsException.class, () -> bus.bit(37));
        Buses.over(bus, 0, 0, 1, 2, 3);
        Check.equal("a frame that goes is not coded()", bus.bit(1), 1);
        Check.refuses("still", IndexOutOfBoundsException.class, () -> bus.bit(37));
    }

    // promise 16, before any coded()
    private static void noBitsBeforeCoded() {
        StuffedBus bus = new StuffedBus();
        Check.refuses("0", IndexOutOfBoundsException.class, () -> bus.bit(0));
        Buses.over(bus, 0, 0, 1, 2, 3);
        Check.refuses("0 still", IndexOutOfBoundsException.class, () -> bus.bit(0));
    }
}
