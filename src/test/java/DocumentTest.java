import java.util.ArrayDeque;
import java.util.Deque;
import java.util.Random;

/**
 * What the document asks as a whole, in its order, each sentence above its test; what it asks at its
 * boundaries is in the Edges tests, and what is refused in RefusalsTest.
 */
public final class DocumentTest {
    private static final int X = 100;
    private static final int Y = 200;
    private static final int[] FIRST_OF_20 = {0x10, 20, 1, 2, 3, 4, 5, 6};

    private DocumentTest() {
    }

    public static void main(String[] args) {
        theLeastIdentifierGoesFirst();
        whatIsSpoiltIsNoticedAndSentAgain();
        aSpoiltPieceIsSentAgain();
        messagesGoInPieces();
        theCheckTakesEachBit();
        theFirstOnesOfAllBoxes();
        thoseThatDoNotSendHear();
        theRoundEndsBehindThatBit();
        eachConnectionHasItsOwn();
        theHearerIsTheOtherNode();
        piecesOfSeveralConnections();
        aboutTellsHowThingsStand();
        latestTellsTheLatestRound();
        sameCallsSameAnswers();
        theRunOfReadme();
        Check.finish();
    }

    private static StuffedBus connected(int block) {
        StuffedBus bus = new StuffedBus();
        bus.connect(0, 0, 1, X, Y, block);
        return bus;
    }

    private static int leastOfFirsts(Deque<Integer>[] boxes) {
        int least = -1;
        for (int node = 0; node < boxes.length; node++) {
            boolean less = !boxes[node].isEmpty()
                    && (least < 0 || boxes[node].peek() < boxes[least].peek());
            least = less ? node : least;
        }
        return least;
    }

    // "Nodes on a bus of one wire send frames bit by bit, the least identifier goes first"
    private static void theLeastIdentifierGoesFirst() {
        Random chance = new Random(1);
        for (int run = 0; run < 200; run++) {
            StuffedBus bus = new StuffedBus();
            @SuppressWarnings({"unchecked", "rawtypes"})
            Deque<Integer>[] boxes = new Deque[6];
            for (int node = 0; node < 6; node++) {
                boxes[node] = new ArrayDeque<>();
            }
            // Identifiers of one frame each, often alike in many of their bits.
            int near = chance.nextInt(2048);
            boolean[] used = new boolean[2048];
            for (int i = 0; i < 40; i++) {
                int identifier = near ^ 1 << chance.nextInt(11) ^ 1 << chance.nextInt(11);
                int node = chance.nextInt(6);
                if (!used[identifier] && boxes[node].size() < 16) {
                    used[identifier] = true;
                    boxes[node].add(identifier);
                    Buses.frame(bus, node, identifier, identifier % 256);
                }
            }
            for (int node = leastOfFirsts(boxes); node >= 0; node = leastOfFirsts(boxes)) {
                int due = boxes[node].remove();
                bus.round();
                Due.latestIs("run " + run, bus, due, node, 0, Buses.bitsOf(due, due % 256));
            }
            Check.equal("that was all", bus.round(), 0);
        }
    }

    // "what is spoilt is noticed and sent again"
    private static void whatIsSpoiltIsNoticedAndSentAgain() {
        int[][] messages = {{0}, {255, 255, 255}, {1, 2, 3, 4, 5, 6, 7}};
        for (int[] message : messages) {
            int[] piece = new int[message.length + 1];
            piece[0] = message.length;
            System.arraycopy(message, 0, piece, 1, message.length);
            int bits = Buses.bitsOf(X, piece);
            for (int k = 0; k < bits; k++) {
                StuffedBus bus = connected(0);
                Buses.send(bus, 0, message);
                bus.spoil(k);
                bus.round();
                Check.isTrue("noticed " + k, bus.latest(2) != 0);
                Check.equal("not sent", bus.about(0, 3), 0);
                Check.equal("in the box", bus.node(0, 3), 1);
                Due.goes("sent again", bus, 0, X, piece);
                // What is spoilt at the last bit was heard the first time, too.
                Due.aboutIs("sent", bus, 0, 0, 0, 1, 0, 0, 0, k == bits - 1 ? 2 : 1);
                Due.messageIs("came", bus, 0, message);
            }
        }
    }

    // the same, of a message in pieces and of its answers: it comes, only one round later
    private static void aSpoiltPieceIsSentAgain() {
        int[] message = Buses.message(20);
        int[] bits = new int[5];
        StuffedBus whole = connected(1);
        Buses.send(whole, 0, message);
        for (int i = 0; i < 5; i++) {
            bits[i] = whole.round();
        }
        for (int i = 0; i < 5; i++) {
            for (int k = 0; k < bits[i] - 1; k++) {
                StuffedBus bus = connected(1);
                Buses.send(bus, 0, message);
                bus.rounds(i);
                bus.spoil(k);
                bus.rounds(5 - i);
                Due.aboutIs("round " + i + " bit " + k + ": not yet", bus, 1, 0, 0, 0, 1, 0, 0, 0, 0);
                bus.round();
                Due.aboutIs("round " + i + " bit " + k, bus, 0, 0, 0, 1, 0, 0, 0, 1, 20);
                Due.messageIs("round " + i + " bit " + k, bus, 0, message);
            }
        }
    }

    // "messages of up to 400 bytes go over it in pieces, as fast as the hearer allows"
    private static void messagesGoInPieces() {
        for (int length = 1; length <= 400; length++) {
            for (int block : new int[] {0, 1, 2, 5, 8, 15}) {
                int following = length < 8 ? 0 : (length - 6 + 6) / 7;
                int answers = length < 8 ? 0 : 1;
                answers += block == 0 || following == 0 ? 0 : (following - 1) / block;
                StuffedBus bus = connected(block);
                Buses.send(bus, 0, Buses.message(length));
                bus.rounds(following + answers);
                Check.equal("not yet", bus.about(0, 7), 0);
                bus.round();
                Due.aboutIs(length + " bytes", bus, 0, 0, 0, 1, 0, 0, 0, 1, length);
                Due.messageIs(length + " bytes, block " + block, bus, 0, Buses.message(length));
            }
        }
    }

    private static String lastFifteen(int identifier, int... bytes) {
        StuffedBus bus = new StuffedBus();
        Buses.tape(bus, bytes);
        int count = bus.coded(identifier);
        StringBuilder plain = new StringBuilder();
        int alike = 0;
        for (int i = 0; i < count; i++) {
            int bit = bus.bit(i);
            boolean putIn = alike == 5;
            alike = i > 0 && bit == bus.bit(i - 1) ? alike + 1 : 1;
            plain.append(putIn ? "" : bit);
        }
        return plain.substring(plain.length() - 15);
    }

    // "a CHECK in fifteen: a register of fifteen bits .. takes each bit so far"
    private static void theCheckTakesEachBit() {
        int[] none = new int[8];
        String due = lastFifteen(0, none);
        for (int place = 0; place < 11; place++) {
            Check.isTrue("identifier " + place, !lastFifteen(1 << place, none).equals(due));
        }
        for (int i = 0; i < 64; i++) {
            int[] bytes = new int[8];
            bytes[i / 8] = 1 << i % 8;
            Check.isTrue("bit " + i + " of the bytes", !lastFifteen(0, bytes).equals(due));
        }
        for (int n = 0; n < 8; n++) {
            Check.isTrue("how many", !lastFifteen(0, new int[n]).equals(lastFifteen(0, new int[n + 1])));
        }
    }

    // "IN A ROUND all nodes with frames in their boxes send the first ones, bit by bit together"
    private static void theFirstOnesOfAllBoxes() {
        StuffedBus bus = new StuffedBus();
        Buses.frame(bus, 0, 1000);
        Buses.frame(bus, 0, 1);
        Buses.frame(bus, 3, 500);
        Buses.frame(bus, 3, 1001);
        Buses.frame(bus, 5, 2);
        Buses.frame(bus, 5, 2000);
        int[] due = {2, 500, 1000, 1, 1001, 2000};
        int[] nodes = {5, 3, 0, 0, 3, 5};
        for (int i = 0; i < 6; i++) {
            Due.goes("first ones " + i, bus, nodes[i], due[i]);
        }
    }

    // "Those that do not send HEAR.": without a frame, or from the bit on at which they lost
    private static void thoseThatDoNotSendHear() {
        StuffedBus bus = new StuffedBus();
        for (int c = 0; c < 5; c++) {
            int to = c < 2 ? c : c + 1;
            bus.connect(c, 2, to, X + c, Y + c, 0);
        }
        Buses.frame(bus, 0, 2047);
        Buses.frame(bus, 4, X + 8);
        for (int c = 0; c < 5; c++) {
            Buses.over(bus, 2, X + c, 1, 30 + c);
            Due.messageIs("heard by " + c, bus, c, 30 + c);
        }
        Buses.frame(bus, 2, X, 1, 1);
        bus.spoil(40);
        bus.round();
        for (int node = 0; node < 6; node++) {
            Due.countsAre("an error", bus, node, node == 2 ? 8 : 0, node == 2 ? 0 : 1);
        }
    }

    // "At an error the round ends behind that bit"
    private static void theRoundEndsBehindThatBit() {
        int bits = Buses.bitsOf(1365, 0x55, 0xaa);
        int lost = 0;
        for (int k = 0; k < bits; k++) {
            StuffedBus bus = new StuffedBus();
            Buses.frame(bus, 4, 1365, 0x55, 0xaa);
            bus.spoil(k);
            int had = bus.round();
            boolean lose = k < 12 && k % 2 == 1;
            lost += lose ? 1 : 0;
            Check.equal("spoilt " + k, had, lose ? k + 7 : k + 1);
            Check.equal("its bits", bus.latest(3), had);
        }
        Check.equal("each 1 of the identifier loses", lost, 6);
    }

    // "CONNECTIONS .. lead from one node to another one", each with what is its own, also between the same
    private static void eachConnectionHasItsOwn() {
        StuffedBus bus = new StuffedBus();
        for (int c = 0; c < 8; c++) {
            bus.connect(c, 0, 1, 2 * c, 2 * c + 1, c);
        }
        for (int c = 7; c >= 0; c--) {
            Buses.send(bus, c, Buses.message(20 + c));
            Check.equal("sending", bus.about(c, 0), 1);
            Check.equal("in the box", bus.node(0, 3), 8 - c);
        }
        bus.rounds(8);
        for (int c = 0; c < 8; c++) {
            Check.equal("gathers " + c, bus.about(c, 4), 1);
        }
        bus.rounds(60);
        for (int c = 0; c < 8; c++) {
            Due.messageIs("connection " + c, bus, c, Buses.message(20 + c));
            Check.equal("sent wholly", bus.about(c, 3), 1);
            Check.equal("none failed", bus.about(c, 1) + bus.about(c, 5), 0);
        }
    }

    // "THE HEARER (the other node, when it hears a frame X)"
    private static void theHearerIsTheOtherNode() {
        StuffedBus bus = connected(0);
        bus.connect(1, 1, 0, X + 1, Y + 1, 0);
        int came = 0;
        for (int node = 0; node < 6; node++) {
            Buses.over(bus, node, X, 1, node);
            came += node == 1 ? 0 : 1;
            Check.equal("from node " + node, bus.about(0, 7), came);
            Check.equal("not the other connection's", bus.about(1, 7), Math.max(0, node - 1));
            Buses.over(bus, node, X + 1, 1, node);
            Check.equal("from node " + node, bus.about(1, 7), node);
            Buses.over(bus, node, Y, 1, node);
            Buses.over(bus, node, X + 2, 1, node);
        }
        Check.equal("X alone", bus.about(0, 7), 5);
    }

    // "What is sent comes to the node's box as soon as the frame before is sent": one piece of each at a time
    private static void piecesOfSeveralConnections() {
        StuffedBus bus = new StuffedBus();
        bus.connect(0, 0, 1, 10, 20, 0);
        bus.connect(1, 0, 2, 11, 21, 0);
        Buses.send(bus, 1, Buses.message(20));
        Buses.send(bus, 0, Buses.message(20));
        Check.equal("first ones", bus.node(0, 3), 2);
        // The first frames go before the answers, whose identifiers are greater, and so do the pieces.
        int[] due = {11, 10, 20, 10, 10, 21, 11, 11};
        for (int i = 0; i < due.length; i++) {
            bus.round();
            Check.equal("round " + i, bus.latest(0), due[i]);
        }
        Due.messageIs("connection 0", bus, 0, Buses.message(20));
        Due.messageIs("connection 1", bus, 1, Buses.message(20));
        Check.equal("nothing more", bus.round(), 0);
    }

    // "what = 0 its sender: 0 nothing to send, 1 sending, 2 waiting; 1 how often a message was aborted, 2 why
    // the latest time (0: never), 3 messages that were sent wholly; 4 whether it gathers (1), 5 how often it
    // failed, 6 why the latest time, 7 messages that came, 8 bytes of the latest one that came"
    private static void aboutTellsHowThingsStand() {
        StuffedBus bus = connected(1);
        Due.aboutIs("new", bus, 0, 0, 0, 0, 0, 0, 0, 0, 0);
        Buses.send(bus, 0, Buses.message(14));
        Due.aboutIs("sending", bus, 1, 0, 0, 0, 0, 0, 0, 0, 0);
        bus.round();
        Due.aboutIs("waiting, gathers", bus, 2, 0, 0, 0, 1, 0, 0, 0, 0);
        bus.rounds(4);
        Due.aboutIs("sent, came", bus, 0, 0, 0, 1, 0, 0, 0, 1, 14);
        Buses.over(bus, 0, X, FIRST_OF_20);
        bus.round();
        Due.aboutIs("gathers", bus, 0, 0, 0, 1, 1, 0, 0, 1, 14);
        Buses.over(bus, 0, X, 0x25, 1, 2, 3, 4, 5, 6, 7);
        Due.aboutIs("failed 1", bus, 0, 0, 0, 1, 0, 1, 1, 1, 14);
        Buses.over(bus, 0, X, FIRST_OF_20);
        bus.rounds(41);
        Due.aboutIs("failed 2", bus, 0, 0, 0, 1, 0, 2, 2, 1, 14);
        Buses.over(bus, 0, X, FIRST_OF_20);
        bus.round();
        Buses.send(bus, 0, 5);
        bus.round();
        Due.aboutIs("failed 3", bus, 0, 0, 0, 2, 0, 3, 3, 2, 1);
        Buses.switchOff(bus, 1, 2);
        Buses.send(bus, 0, Buses.message(9));
        bus.round();
        Buses.over(bus, 3, Y, 50);
        Due.aboutIs("aborted 1", bus, 0, 1, 1, 2, 0, 3, 3, 2, 1);
        Buses.send(bus, 0, Buses.message(9));
        bus.rounds(42);
        Due.aboutIs("aborted 2", bus, 0, 2, 2, 2, 0, 3, 3, 2, 1);
        Buses.send(bus, 0, Buses.message(9));
        Buses.frame(bus, 3, X, 255);
        bus.rounds(32);
        Due.aboutIs("aborted 3", bus, 0, 3, 3, 2, 0, 3, 3, 2, 1);
    }

    // "Of the latest round: what = 0 the identifier that was sent, NONE if none was; 1 the node that sent it
    // (of several the least), NONE; 2 its error, 0 without one; 3 its bits."
    private static void latestTellsTheLatestRound() {
        StuffedBus bus = new StuffedBus();
        Buses.frame(bus, 4, 9);
        Buses.frame(bus, 2, 9);
        int bits = Buses.bitsOf(9);
        // Bit 5 of 00000(1)0001001 is a 1 put in among the identifier.
        int[][] spoils = {{0, 1, 1}, {5, 2, 6}, {bits - 10, 3, bits - 9}, {bits - 9, 4, bits - 8}};
        for (int[] spoil : spoils) {
            bus.spoil(spoil[0]);
            bus.round();
            Due.latestIs("spoilt " + spoil[0], bus, StuffedBus.NONE, StuffedBus.NONE, spoil[1], spoil[2]);
        }
        bus.round();
        Due.latestIs("both sent", bus, 9, 2, 0, bits);
        bus.round();
        Due.latestIs("nothing", bus, StuffedBus.NONE, StuffedBus.NONE, 0, 0);
    }

    private static void act(StuffedBus bus, int step) {
        if (step == 0) {
            bus.connect(0, 0, 1, X, Y, 2);
            bus.connect(1, 1, 0, X + 1, Y + 1, 0);
        }
        if (step % 9 == 0 && bus.about(step % 2, 0) == 0) {
            Buses.send(bus, step % 2, Buses.message(step + 1));
        }
        if (step % 4 == 0) {
            bus.spoil(7 * step % 120);
        }
        bus.round();
    }

    // LANGUAGE.md 13: "the same calls always give the same answers", whatever other objects do
    private static void sameCallsSameAnswers() {
        StuffedBus alone = new StuffedBus();
        for (int step = 0; step < 60; step++) {
            act(alone, step);
        }
        StuffedBus[] together = new StuffedBus[5];
        for (int i = 0; i < together.length; i++) {
            together[i] = new StuffedBus();
        }
        for (int turn = 0; turn < 60 + together.length; turn++) {
            for (int i = 0; i < together.length; i++) {
                if (turn >= i && turn < 60 + i) {
                    act(together[i], turn - i);
                }
            }
        }
        String due = State.of(alone);
        for (StuffedBus bus : together) {
            Check.same("as alone", State.of(bus), due);
        }
    }

    // README.md, "Use"
    private static void theRunOfReadme() {
        StuffedBus bus = new StuffedBus();
        bus.connect(0, 2, 3, 50, 60, 4);
        Check.equal("twenty", bus.feed(0x01020304, 0x05060708, 0, 0, 0), 20);
        bus.end(8);
        bus.send(0);
        bus.spoil(40);
        int due = 41 + Buses.bitsOf(50, 0x10, 8, 1, 2, 3, 4, 5, 6) + Buses.bitsOf(60, 48, 4, 0)
                + Buses.bitsOf(50, 0x21, 7, 8);
        Check.equal("bits", bus.rounds(10), due);
        Check.equal("one came", bus.about(0, 7), 1);
        Check.equal("its last byte", bus.byteAt(0, 7), 8);
    }
}
