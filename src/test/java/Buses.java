/** What several tests do with a bus. */
final class Buses {
    private Buses() {
    }

    /** The tape has just these bytes. */
    static void tape(StuffedBus bus, int... bytes) {
        bus.end(0);
        for (int at = 0; at < bytes.length; at += 20) {
            bus.feed(number(bytes, at), number(bytes, at + 4), number(bytes, at + 8),
                    number(bytes, at + 12), number(bytes, at + 16));
        }
        bus.end(bytes.length);
    }

    private static int number(int[] bytes, int at) {
        int number = 0;
        for (int i = at; i < at + 4; i++) {
            number = number << 8 | (i < bytes.length ? bytes[i] : 0);
        }
        return number;
    }

    static int frame(StuffedBus bus, int node, int identifier, int... bytes) {
        tape(bus, bytes);
        return bus.frame(node, identifier);
    }

    /** A frame that goes over the bus at once, if its identifier is the least. */
    static void over(StuffedBus bus, int node, int identifier, int... bytes) {
        frame(bus, node, identifier, bytes);
        bus.round();
    }

    static void send(StuffedBus bus, int c, int... bytes) {
        tape(bus, bytes);
        bus.send(c);
    }

    static int[] message(int length) {
        int[] bytes = new int[length];
        for (int i = 0; i < length; i++) {
            bytes[i] = (7 * i + length) % 256;
        }
        return bytes;
    }

    /** Two frames with one identifier and other bytes spoil one another till both nodes are off. */
    static void switchOff(StuffedBus bus, int a, int b) {
        frame(bus, a, 1, 1);
        frame(bus, b, 1, 2);
        bus.rounds(32);
    }

    /** How many bits a round has in which this frame is sent. */
    static int bitsOf(int identifier, int... bytes) {
        StuffedBus bus = new StuffedBus();
        tape(bus, bytes);
        return bus.coded(identifier) + 10;
    }
}
