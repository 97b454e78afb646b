import java.util.HashMap;
import java.util.Map;

/**
 * "Methods throw what their comments name, the one named first when several would do. .. A call that
 * throws changes nothing": each call that is refused, with its exception, and held against a bus that
 * was made alike and did not get the call: neither what they answer nor what they do later may differ.
 */
public final class RefusalsTest {
    private static final Class<? extends RuntimeException> INDEX = IndexOutOfBoundsException.class;
    private static final Class<? extends RuntimeException> STATE = IllegalStateException.class;
    private static final Class<? extends RuntimeException> ARGUMENT = IllegalArgumentException.class;
    private static final Class<? extends RuntimeException> UNSUPPORTED = UnsupportedOperationException.class;
    private static final int LEAST = Integer.MIN_VALUE;
    private static final int MOST = Integer.MAX_VALUE;
    private static final int[] NO_NODE = {-1, 6, LEAST, MOST};
    private static final int[] NO_CONNECTION = {-1, 8, LEAST, MOST};
    private static final int[] NO_IDENTIFIER = {-1, 2048, LEAST, MOST};
    private static final int[] NO_BLOCK = {-1, 16, LEAST, MOST};
    private static final int[] LATER = {0, 1, 2, 3, 5, 34, 63, 92, 150};

    /** NEW has nothing; in the others much goes on, and node 3 has a full box, or is off as node 0 is. */
    private enum Kind { NEW, BUSY, FULL, OFF }

    private interface On {
        void call(StuffedBus bus);
    }

    private static final Map<String, String> UNTOUCHED = new HashMap<>();

    private RefusalsTest() {
    }

    public static void main(String[] args) {
        theKindsAreAsTold();
        feedOfTooMany();
        endOfNone();
        connectOfNoConnectionOrNode();
        connectOfNoConnectionGoesFirst();
        connectOfOneNode();
        connectOfNoIdentifier();
        connectOfIdentifiersOfAnother();
        connectOfOneIdentifierTwice();
        connectOfNoBlock();
        sendOnNoConnection();
        sendAsItSendsOrWaits();
        sendAsItsNodeIsOff();
        sendAsItsBoxIsFull();
        sendOfNoMessage();
        frameOfNoNode();
        frameAsItIsOff();
        frameAsItsBoxIsFull();
        frameOfNoIdentifier();
        frameOfTooManyBytes();
        spoilOfNoBit();
        roundsOfNoNumber();
        latestOfNothing();
        nodeOfNoNode();
        nodeOfNothing();
        restartOfNoNode();
        aboutNoConnection();
        aboutNothing();
        byteOfNoConnection();
        byteOfNone();
        codedOfNoIdentifier();
        codedOfTooManyBytes();
        bitOfNone();
        Check.finish();
    }

    private static StuffedBus made(Kind kind, int tape) {
        StuffedBus bus = new StuffedBus();
        if (kind != Kind.NEW) {
            makeBusy(bus);
        }
        if (kind == Kind.FULL) {
            fillBox(bus, 3);
        }
        if (kind == Kind.OFF) {
            Buses.switchOff(bus, 0, 3);
        }
        if (kind != Kind.NEW) {
            Buses.tape(bus, 1, 2, 3);
            bus.coded(77);
            bus.spoil(33);
        }
        Buses.tape(bus, Buses.message(tape));
        return bus;
    }

    /** Connection 0 waits and gathers, 1 sends and a message came, 2 has done nothing; counts are not 0. */
    private static void makeBusy(StuffedBus bus) {
        bus.connect(0, 0, 1, 100, 200, 2);
        bus.connect(1, 2, 3, 50, 60, 0);
        bus.connect(2, 3, 2, 70, 80, 15);
        Buses.send(bus, 1, 1, 2, 3);
        bus.round();
        Buses.send(bus, 0, Buses.message(30));
        bus.round();
        Buses.send(bus, 1, Buses.message(9));
        bus.spoil(20);
        bus.round();
    }

    private static void fillBox(StuffedBus bus, int node) {
        for (int i = 0; i < 16; i++) {
            Buses.frame(bus, node, 1500 + i);
        }
    }

    private static int tapeLength(StuffedBus bus) {
        for (int n = 420; n > 400; n--) {
            try {
                bus.end(n);
                return n;
            } catch (IllegalArgumentException itHasLess) {
                continue;
            }
        }
        int n = bus.feed(0, 0, 0, 0, 0) - 20;
        bus.end(n);
        return n;
    }

    private static StuffedBus madeAndCalled(Kind kind, int tape, On call) {
        StuffedBus bus = made(kind, tape);
        try {
            call.call(bus);
        } catch (RuntimeException refusal) {
            return bus;
        }
        return bus;
    }

    /** What a bus does from here on: the tape's bytes come over a connection, and time passes. */
    private static String after(StuffedBus bus, int rounds) {
        int length = tapeLength(bus);
        bus.end(Math.min(length, 400));
        bus.connect(7, 5, 4, 2046, 2045, 0);
        if (length > 0) {
            bus.send(7);
        }
        int bits = bus.rounds(rounds);
        return "tape " + length + ", " + bits + " bits in " + rounds + " rounds: " + State.of(bus);
    }

    /** Each look is at an object of its own, as one that is asked all each time gets too many calls. */
    private static String presentAndFuture(Kind kind, int tape, On call) {
        StringBuilder text = new StringBuilder(State.of(madeAndCalled(kind, tape, call)));
        for (int rounds : LATER) {
            text.append("; ").append(after(madeAndCalled(kind, tape, call), rounds));
        }
        return text.toString();
    }

    private static void refused(
            String what, Kind kind, int tape, Class<? extends RuntimeException> due, On refused) {
        String all = what + ", " + kind + ", tape of " + tape;
        StuffedBus bus = made(kind, tape);
        Check.refuses(all, due, () -> refused.call(bus));
        String untouched = UNTOUCHED.computeIfAbsent(
                kind + " " + tape, key -> presentAndFuture(kind, tape, none -> { }));
        Check.same(all + " changed something", presentAndFuture(kind, tape, refused), untouched);
    }

    private static void refusedAlways(
            String what, int tape, Class<? extends RuntimeException> due, On refused) {
        for (Kind kind : Kind.values()) {
            refused(what, kind, tape, due, refused);
        }
    }

    private static void theKindsAreAsTold() {
        StuffedBus busy = made(Kind.BUSY, 5);
        Due.aboutIs("connection 0", busy, 2, 0, 0, 0, 1, 0, 0, 0, 0);
        Check.equal("connection 1 sends", busy.about(1, 0), 1);
        Due.messageIs("connection 1", busy, 1, 1, 2, 3);
        Check.equal("connection 2 has nothing to send", busy.about(2, 0), 0);
        Due.countsAre("node 2", busy, 2, 8, 0);
        Due.countsAre("node 5", busy, 5, 0, 1);
        StuffedBus full = made(Kind.FULL, 5);
        Check.equal("full", full.node(3, 3), 16);
        Check.equal("connection 2 has nothing to send", full.about(2, 0), 0);
        StuffedBus off = made(Kind.OFF, 5);
        Check.equal("off", off.node(0, 2) + off.node(3, 2), 2);
        Check.equal("connections 0 and 2 have nothing to send", off.about(0, 0) + off.about(2, 0), 0);
        Check.equal("its bit is spoilt", busy.round(), 34);
    }

    // feed: "UnsupportedOperationException: they would be more than 420."
    private static void feedOfTooMany() {
        for (int tape : new int[] {401, 402, 419, 420}) {
            refusedAlways("feed", tape, UNSUPPORTED, bus -> bus.feed(1, 2, 3, 4, 5));
        }
    }

    // end: "IllegalArgumentException: n is below 0, or it has not so many."
    private static void endOfNone() {
        for (int tape : new int[] {0, 1, 20, 420}) {
            for (int n : new int[] {-1, tape + 1, LEAST, MOST}) {
                refusedAlways("end " + n, tape, ARGUMENT, bus -> bus.end(n));
            }
        }
    }

    private static void connectRefused(Kind kind, Class<? extends RuntimeException> due, int... w) {
        refused("connect " + java.util.Arrays.toString(w), kind, 5, due,
                bus -> bus.connect(w[0], w[1], w[2], w[3], w[4], w[5]));
    }

    // connect: "IndexOutOfBoundsException"; "there is no such node, connection"
    private static void connectOfNoConnectionOrNode() {
        for (Kind kind : Kind.values()) {
            for (int c : NO_CONNECTION) {
                connectRefused(kind, INDEX, c, 0, 1, 5, 6, 0);
            }
            for (int node : NO_NODE) {
                connectRefused(kind, INDEX, 3, node, 1, 5, 6, 0);
                connectRefused(kind, INDEX, 3, 1, node, 5, 6, 0);
                connectRefused(kind, INDEX, 0, 1, node, 5, 6, 0);
            }
        }
    }

    // connect: "the one named first when several would do"
    private static void connectOfNoConnectionGoesFirst() {
        connectRefused(Kind.BUSY, INDEX, 8, 3, 3, 5, 6, 0);
        connectRefused(Kind.BUSY, INDEX, -1, 0, 1, 2048, 6, 0);
        connectRefused(Kind.BUSY, INDEX, 8, 0, 1, 5, -1, 0);
        connectRefused(Kind.BUSY, INDEX, 8, 0, 1, 100, 6, 0);
        connectRefused(Kind.BUSY, INDEX, 8, 0, 1, 5, 5, 0);
        connectRefused(Kind.BUSY, INDEX, -1, 0, 1, 5, 6, 16);
        connectRefused(Kind.BUSY, INDEX, 3, 6, 6, 5, 6, 0);
        connectRefused(Kind.BUSY, INDEX, 3, -1, -1, 5, 6, 0);
        connectRefused(Kind.BUSY, INDEX, 3, 6, 0, -1, 6, 0);
        connectRefused(Kind.BUSY, INDEX, 3, 0, 6, 5, 2048, 0);
        connectRefused(Kind.BUSY, INDEX, 3, 0, -1, 5, 100, 0);
        connectRefused(Kind.BUSY, INDEX, 3, 0, -1, 5, 5, 0);
        connectRefused(Kind.BUSY, INDEX, 3, -1, 0, 5, 6, -1);
        connectRefused(Kind.NEW, INDEX, 8, 6, 6, -1, -1, 16);
    }

    // connect: "IllegalArgumentException: both nodes are the same"
    private static void connectOfOneNode() {
        for (Kind kind : Kind.values()) {
            for (int node = 0; node < 6; node++) {
                connectRefused(kind, ARGUMENT, 3, node, node, 5, 6, 0);
            }
            connectRefused(kind, ARGUMENT, 0, 1, 1, 100, 200, 2);
        }
    }

    // connect: "an identifier is none"
    private static void connectOfNoIdentifier() {
        for (Kind kind : Kind.values()) {
            for (int identifier : NO_IDENTIFIER) {
                connectRefused(kind, ARGUMENT, 3, 0, 1, identifier, 6, 0);
                connectRefused(kind, ARGUMENT, 3, 0, 1, 5, identifier, 0);
                connectRefused(kind, ARGUMENT, 3, 0, 1, identifier, identifier, 0);
                connectRefused(kind, ARGUMENT, 0, 0, 1, 100, identifier, 0);
            }
        }
    }

    // connect: "or one of another connection (or both are)"
    private static void connectOfIdentifiersOfAnother() {
        for (int taken : new int[] {100, 200, 50, 60, 70, 80}) {
            connectRefused(Kind.BUSY, ARGUMENT, 3, 4, 5, taken, 6, 0);
            connectRefused(Kind.BUSY, ARGUMENT, 3, 4, 5, 5, taken, 0);
            connectRefused(Kind.BUSY, ARGUMENT, 3, 4, 5, taken, taken, 0);
        }
        connectRefused(Kind.BUSY, ARGUMENT, 3, 0, 1, 100, 200, 2);
        connectRefused(Kind.BUSY, ARGUMENT, 3, 0, 1, 200, 100, 2);
        connectRefused(Kind.BUSY, ARGUMENT, 3, 0, 1, 60, 80, 2);
        // In place of connection 0, its own identifiers are free, but not those of 1 and 2.
        for (int taken : new int[] {50, 60, 70, 80}) {
            connectRefused(Kind.BUSY, ARGUMENT, 0, 0, 1, 100, taken, 2);
            connectRefused(Kind.BUSY, ARGUMENT, 0, 0, 1, taken, 200, 2);
        }
    }

    // Terms: "(all identifiers of connections are different)"
    private static void connectOfOneIdentifierTwice() {
        for (Kind kind : Kind.values()) {
            connectRefused(kind, ARGUMENT, 3, 0, 1, 5, 5, 0);
            connectRefused(kind, ARGUMENT, 0, 0, 1, 100, 100, 2);
            connectRefused(kind, ARGUMENT, 0, 0, 1, 200, 200, 2);
        }
    }

    // connect: "or the block is none"
    private static void connectOfNoBlock() {
        for (Kind kind : Kind.values()) {
            for (int block : NO_BLOCK) {
                connectRefused(kind, ARGUMENT, 3, 0, 1, 5, 6, block);
                connectRefused(kind, ARGUMENT, 0, 0, 1, 100, 200, block);
            }
        }
    }

    // send: "IndexOutOfBoundsException (also: it is none)", whatever the tape has
    private static void sendOnNoConnection() {
        for (int tape : new int[] {0, 5, 401}) {
            for (int c : new int[] {-1, 3, 7, 8, LEAST, MOST}) {
                refusedAlways("send " + c, tape, INDEX, bus -> bus.send(c));
            }
            refused("send 0", Kind.NEW, tape, INDEX, bus -> bus.send(0));
        }
    }

    // send: "IllegalStateException: it is sending or waiting", whatever the tape has
    private static void sendAsItSendsOrWaits() {
        for (int tape : new int[] {0, 5, 401}) {
            refused("send, waiting", Kind.BUSY, tape, STATE, bus -> bus.send(0));
            refused("send, sending", Kind.BUSY, tape, STATE, bus -> bus.send(1));
        }
    }

    // send: "its node is off", whatever the tape has
    private static void sendAsItsNodeIsOff() {
        for (int tape : new int[] {0, 5, 401}) {
            refused("send, off", Kind.OFF, tape, STATE, bus -> bus.send(0));
            refused("send, off", Kind.OFF, tape, STATE, bus -> bus.send(2));
        }
    }

    // send: "or its box is full", whatever the tape has
    private static void sendAsItsBoxIsFull() {
        for (int tape : new int[] {0, 5, 401}) {
            refused("send, full", Kind.FULL, tape, STATE, bus -> bus.send(2));
        }
    }

    // send: "IllegalArgumentException: the tape has not 1 .. 400 bytes."
    private static void sendOfNoMessage() {
        for (int tape : new int[] {0, 401, 420}) {
            refused("send", Kind.BUSY, tape, ARGUMENT, bus -> bus.send(2));
        }
    }

    // frame: "IndexOutOfBoundsException", whatever identifier and tape are
    private static void frameOfNoNode() {
        for (int node : NO_NODE) {
            for (int tape : new int[] {0, 8, 9}) {
                refusedAlways("frame " + node, tape, INDEX, bus -> bus.frame(node, 7));
                refusedAlways("frame " + node + " -1", tape, INDEX, bus -> bus.frame(node, -1));
                refusedAlways("frame " + node + " 2048", tape, INDEX, bus -> bus.frame(node, 2048));
            }
        }
    }

    private static void frameRefusedByState(String why, Kind kind, int node) {
        for (int tape : new int[] {0, 8, 9}) {
            for (int identifier : new int[] {0, 2047, -1, 2048}) {
                refused("frame " + node + " " + identifier + ", " + why, kind, tape, STATE,
                        bus -> bus.frame(node, identifier));
            }
        }
    }

    // frame: "IllegalStateException: it is off", whatever identifier and tape are
    private static void frameAsItIsOff() {
        frameRefusedByState("off", Kind.OFF, 0);
        frameRefusedByState("off", Kind.OFF, 3);
    }

    // frame: "or its box is full", whatever identifier and tape are
    private static void frameAsItsBoxIsFull() {
        frameRefusedByState("full", Kind.FULL, 3);
    }

    // frame: "IllegalArgumentException: no identifier"
    private static void frameOfNoIdentifier() {
        for (int identifier : NO_IDENTIFIER) {
            for (int tape : new int[] {0, 8, 9}) {
                refusedAlways("frame 2 " + identifier, tape, ARGUMENT, bus -> bus.frame(2, identifier));
            }
        }
    }

    // frame: "or the tape has more than 8 bytes."
    private static void frameOfTooManyBytes() {
        for (int tape : new int[] {9, 10, 20, 420}) {
            refusedAlways("frame 5 7", tape, ARGUMENT, bus -> bus.frame(5, 7));
        }
    }

    // spoil: "IllegalArgumentException: k is not 0 .. 199."; the bit that was told before is spoilt then
    private static void spoilOfNoBit() {
        for (int k : new int[] {-1, 200, LEAST, MOST}) {
            refusedAlways("spoil " + k, 5, ARGUMENT, bus -> bus.spoil(k));
        }
    }

    // rounds: "IllegalArgumentException: n is not 0 .. 1000."
    private static void roundsOfNoNumber() {
        for (int n : new int[] {-1, 1001, LEAST, MOST}) {
            refusedAlways("rounds " + n, 5, ARGUMENT, bus -> bus.rounds(n));
        }
    }

    // latest: "IllegalArgumentException: what is none of these."
    private static void latestOfNothing() {
        for (int what : new int[] {-1, 4, LEAST, MOST}) {
            refusedAlways("latest " + what, 5, ARGUMENT, bus -> bus.latest(what));
        }
    }

    // node: "IndexOutOfBoundsException", whatever is asked
    private static void nodeOfNoNode() {
        for (int node : NO_NODE) {
            for (int what : new int[] {0, 3, -1, 4}) {
                refusedAlways("node " + node + " " + what, 5, INDEX, bus -> bus.node(node, what));
            }
        }
    }

    // node: "IllegalArgumentException: what is none of these."
    private static void nodeOfNothing() {
        for (int what : new int[] {-1, 4, LEAST, MOST}) {
            refusedAlways("node 0 " + what, 5, ARGUMENT, bus -> bus.node(0, what));
            refusedAlways("node 5 " + what, 5, ARGUMENT, bus -> bus.node(5, what));
        }
    }

    // restart: "IndexOutOfBoundsException."
    private static void restartOfNoNode() {
        for (int node : NO_NODE) {
            refusedAlways("restart " + node, 5, INDEX, bus -> bus.restart(node));
        }
    }

    // about: "IndexOutOfBoundsException (also: it is none)", whatever is asked
    private static void aboutNoConnection() {
        for (int c : new int[] {-1, 3, 7, 8, LEAST, MOST}) {
            for (int what : new int[] {0, 8, -1, 9}) {
                refusedAlways("about " + c + " " + what, 5, INDEX, bus -> bus.about(c, what));
            }
        }
        refused("about 0 0", Kind.NEW, 5, INDEX, bus -> bus.about(0, 0));
    }

    // about: "IllegalArgumentException: what is none of these."
    private static void aboutNothing() {
        for (int what : new int[] {-1, 9, LEAST, MOST}) {
            refused("about 0 " + what, Kind.BUSY, 5, ARGUMENT, bus -> bus.about(0, what));
            refused("about 2 " + what, Kind.OFF, 5, ARGUMENT, bus -> bus.about(2, what));
        }
    }

    // byteAt: "IndexOutOfBoundsException (also: the connection is none)."
    private static void byteOfNoConnection() {
        for (int c : new int[] {-1, 3, 7, 8, LEAST, MOST}) {
            refusedAlways("byteAt " + c + " 0", 5, INDEX, bus -> bus.byteAt(c, 0));
        }
        refused("byteAt 0 0", Kind.NEW, 5, INDEX, bus -> bus.byteAt(0, 0));
    }

    // byteAt: "there is no such .. byte": three came over connection 1, none over the others
    private static void byteOfNone() {
        for (int i : new int[] {-1, 3, LEAST, MOST}) {
            refused("byteAt 1 " + i, Kind.BUSY, 5, INDEX, bus -> bus.byteAt(1, i));
        }
        for (int i : new int[] {-1, 0, LEAST, MOST}) {
            refused("byteAt 0 " + i + ", as it gathers", Kind.BUSY, 5, INDEX, bus -> bus.byteAt(0, i));
            refused("byteAt 2 " + i, Kind.BUSY, 5, INDEX, bus -> bus.byteAt(2, i));
        }
    }

    // coded: "IllegalArgumentException: no identifier"; bit() answers as before then
    private static void codedOfNoIdentifier() {
        for (int identifier : NO_IDENTIFIER) {
            for (int tape : new int[] {0, 8, 9}) {
                refusedAlways("coded " + identifier, tape, ARGUMENT, bus -> bus.coded(identifier));
            }
        }
    }

    // coded: "or the tape has more than 8 bytes."
    private static void codedOfTooManyBytes() {
        for (int tape : new int[] {9, 10, 20, 420}) {
            refusedAlways("coded 7", tape, ARGUMENT, bus -> bus.coded(7));
        }
    }

    // bit: "IndexOutOfBoundsException."
    private static void bitOfNone() {
        StuffedBus counted = new StuffedBus();
        Buses.tape(counted, 1, 2, 3);
        int count = counted.coded(77);
        for (int i : new int[] {-1, count, LEAST, MOST}) {
            refusedAlways("bit " + i, 5, INDEX, bus -> bus.bit(i));
        }
        refused("bit 0", Kind.NEW, 5, INDEX, bus -> bus.bit(0));
    }
}
