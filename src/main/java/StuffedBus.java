/**
 * Six nodes on a bus of one wire: frames go bit by bit, the least identifier goes first, what is
 * spoilt is sent again, and messages of up to 400 bytes go over it in pieces.
 */
public final class StuffedBus {
    public static final int NONE = -1;

    private static final int NODES = 6;
    private static final int CONNECTIONS = 8;
    private static final int IDENTIFIERS = 2048;
    private static final int BLOCKS = 16;
    private static final int TAPE_BYTES = 420;
    private static final int FRAME_BYTES = 8;
    private static final int MESSAGE_BYTES = 400;
    private static final int BOX_FRAMES = 16;
    private static final int SPOILABLE_BITS = 200;
    private static final int ROUNDS_AT_ONCE = 1000;

    // A frame has at most 98 plain bits: one is put in behind the first five and each four more.
    private static final int STUFFED_BITS = 122;
    private static final int END_BITS = 10;
    private static final int ANSWER_PLACE = 1;
    private static final int ALIKE_BEFORE_STUFFING = 5;
    private static final int CHECK_BITS = 15;
    private static final int CHECK_MASK = 0x7fff;
    private static final int CHECK_XOR = 0x4599;

    private static final int NO_ERROR = 0;
    private static final int WRONG_BIT = 1;
    private static final int SIX_ALIKE = 2;
    private static final int WRONG_END = 3;
    private static final int NO_ANSWER = 4;
    private static final int SENDER_PENALTY = 8;
    private static final int OFF_ABOVE = 255;

    private static final int ONE_BYTES = 7;
    private static final int FIRST_BYTES = 6;
    private static final int FOLLOWING_BYTES = 7;
    private static final int FIRST_KIND = 1;
    private static final int FOLLOWING_KIND = 2;
    private static final int GO_ON = 48;
    private static final int WAIT_ANEW = 49;
    private static final int REFUSED = 50;
    private static final int PATIENCE = 40;
    // A count of rounds that begins here is 0 at the end of the round in which it began.
    private static final int JUST_BEGUN = -1;

    private static final int IDLE = 0;
    private static final int SENDING = 1;
    private static final int WAITING = 2;
    private static final int ABORTED_BY_HEARER = 1;
    private static final int ABORTED_BY_TIME = 2;
    private static final int ABORTED_BY_OFF = 3;
    private static final int FAILED_BY_ORDER = 1;
    private static final int FAILED_BY_TIME = 2;
    private static final int FAILED_BY_NEW_ONE = 3;

    private final int[] tape;
    private int tapeLength;
    private final Wire wire;
    private final Station[] stations;
    private final Connection[] connections;
    private final BitRow codedRow;
    // Frames are written here first and copied into boxes, so that no call makes a frame.
    private final Frame draft;
    private int sentIdentifier;
    private int sentBy;

    public StuffedBus() {
        tape = new int[TAPE_BYTES];
        wire = new Wire();
        stations = wire.stations;
        connections = new Connection[CONNECTIONS];
        for (int i = 0; i < CONNECTIONS; i++) {
            connections[i] = new Connection();
        }
        codedRow = new BitRow();
        draft = new Frame();
        sentIdentifier = NONE;
        sentBy = NONE;
    }

    public int feed(int a, int b, int c, int d, int e) throws UnsupportedOperationException {
        if (tapeLength + 20 > TAPE_BYTES) {
            throw new UnsupportedOperationException("the tape is full");
        }
        feedNumber(a);
        feedNumber(b);
        feedNumber(c);
        feedNumber(d);
        feedNumber(e);
        return tapeLength;
    }

    public void end(int n) throws IllegalArgumentException {
        if (n < 0 || n > tapeLength) {
            throw new IllegalArgumentException("the tape has not so many bytes");
        }
        tapeLength = n;
    }

    public void connect(int c, int from, int to, int x, int y, int block)
            throws IndexOutOfBoundsException, IllegalArgumentException {
        if (c < 0 || c >= CONNECTIONS || !isNode(from) || !isNode(to)) {
            throw new IndexOutOfBoundsException("no such connection or node");
        }
        if (from == to || block < 0 || block >= BLOCKS) {
            throw new IllegalArgumentException("the nodes are the same, or the block is none");
        }
        if (x == y || !isFree(x, c) || !isFree(y, c)) {
            throw new IllegalArgumentException("an identifier is none, or taken");
        }
        for (int i = 0; i < NODES; i++) {
            stations[i].box.disown(c);
        }
        connections[c].open(from, to, x, y, block);
    }

    public void send(int c)
            throws IndexOutOfBoundsException, IllegalStateException, IllegalArgumentException {
        if (!isConnected(c)) {
            throw new IndexOutOfBoundsException("no such connection");
        }
        Connection connection = connections[c];
        Station station = stations[connection.from];
        if (connection.sender.state != IDLE || !station.takesFrames()) {
            throw new IllegalStateException("it is sending, its node is off, or the box is full");
        }
        if (tapeLength < 1 || tapeLength > MESSAGE_BYTES) {
            throw new IllegalArgumentException("a message has 1 .. 400 bytes");
        }
        connection.sender.start(tape, tapeLength);
        tapeLength = 0;
        putNextPiece(c);
    }

    public int frame(int node, int identifier)
            throws IndexOutOfBoundsException, IllegalStateException, IllegalArgumentException {
        checkNode(node);
        if (!stations[node].takesFrames()) {
            throw new IllegalStateException("the node is off, or its box is full");
        }
        checkTapeAsFrame(identifier);
        writeTapeTo(draft, identifier);
        tapeLength = 0;
        stations[node].box.put(draft);
        return stations[node].box.count;
    }

    public void spoil(int k) throws IllegalArgumentException {
        if (k < 0 || k >= SPOILABLE_BITS) {
            throw new IllegalArgumentException("no bit that can be spoilt");
        }
        wire.spoilt = k;
    }

    public int round() {
        return playRound();
    }

    public int rounds(int n) throws IllegalArgumentException {
        if (n < 0 || n > ROUNDS_AT_ONCE) {
            throw new IllegalArgumentException("0 .. 1000 rounds");
        }
        int bits = 0;
        for (int i = 0; i < n; i++) {
            bits += playRound();
        }
        return bits;
    }

    public int latest(int what) throws IllegalArgumentException {
        switch (what) {
            case 0:
                return sentIdentifier;
            case 1:
                return sentBy;
            case 2:
                return wire.error;
            case 3:
                return wire.bits;
            default:
                throw new IllegalArgumentException("nothing is known under this number");
        }
    }

    public int node(int node, int what) throws IndexOutOfBoundsException, IllegalArgumentException {
        checkNode(node);
        Station station = stations[node];
        switch (what) {
            case 0:
                return station.sentErrors;
            case 1:
                return station.heardErrors;
            case 2:
                return station.off ? 1 : 0;
            case 3:
                return station.box.count;
            default:
                throw new IllegalArgumentException("nothing is known under this number");
        }
    }

    public boolean restart(int node) throws IndexOutOfBoundsException {
        checkNode(node);
        return stations[node].turnOn();
    }

    public int about(int c, int what) throws IndexOutOfBoundsException, IllegalArgumentException {
        if (!isConnected(c)) {
            throw new IndexOutOfBoundsException("no such connection");
        }
        Sender sender = connections[c].sender;
        Hearer hearer = connections[c].hearer;
        switch (what) {
            case 0:
                return sender.state;
            case 1:
                return sender.aborted;
            case 2:
                return sender.whyAborted;
            case 3:
                return sender.sentWholly;
            case 4:
                return hearer.gathers ? 1 : 0;
            case 5:
                return hearer.failed;
            case 6:
                return hearer.whyFailed;
            case 7:
                return hearer.came;
            case 8:
                return hearer.keptLength;
            default:
                throw new IllegalArgumentException("nothing is known under this number");
        }
    }

    public int byteAt(int c, int i) throws IndexOutOfBoundsException {
        if (!isConnected(c) || i < 0 || i >= connections[c].hearer.keptLength) {
            throw new IndexOutOfBoundsException("no such connection or byte");
        }
        return connections[c].hearer.kept[i];
    }

    public int coded(int identifier) throws IllegalArgumentException {
        checkTapeAsFrame(identifier);
        writeTapeTo(draft, identifier);
        codedRow.encode(draft);
        return codedRow.count;
    }

    public int bit(int i) throws IndexOutOfBoundsException {
        if (i < 0 || i >= codedRow.count) {
            throw new IndexOutOfBoundsException("no such bit");
        }
        return codedRow.at(i);
    }

    private void feedNumber(int number) {
        for (int shift = 24; shift >= 0; shift -= 8) {
            tape[tapeLength] = (number >>> shift) & 255;
            tapeLength++;
        }
    }

    private void checkTapeAsFrame(int identifier) {
        if (!isIdentifier(identifier) || tapeLength > FRAME_BYTES) {
            throw new IllegalArgumentException("no identifier, or more than 8 bytes");
        }
    }

    private void writeTapeTo(Frame frame, int identifier) {
        frame.clear(identifier, NONE);
        for (int i = 0; i < tapeLength; i++) {
            frame.add(tape[i]);
        }
    }

    private static boolean isNode(int node) {
        return node >= 0 && node < NODES;
    }

    private static void checkNode(int node) {
        if (!isNode(node)) {
            throw new IndexOutOfBoundsException("no such node");
        }
    }

    private static boolean isIdentifier(int identifier) {
        return identifier >= 0 && identifier < IDENTIFIERS;
    }

    private boolean isConnected(int c) {
        return c >= 0 && c < CONNECTIONS && connections[c].there;
    }

    /** Connection c's own identifiers are free for it, as it is about to be replaced. */
    private boolean isFree(int identifier, int c) {
        if (!isIdentifier(identifier)) {
            return false;
        }
        for (int i = 0; i < CONNECTIONS; i++) {
            if (i != c && connections[i].uses(identifier)) {
                return false;
            }
        }
        return true;
    }

    private int playRound() {
        sentIdentifier = NONE;
        sentBy = NONE;
        wire.beginRound();
        wire.carryBits();
        if (wire.heard) {
            deliver(wire.leastSender());
        }
        if (wire.sent) {
            noteSent(wire.leastSender());
            settleSent();
        } else if (wire.error != NO_ERROR) {
            settleError();
        }
        for (int c = 0; c < CONNECTIONS; c++) {
            endRoundOf(c);
        }
        return wire.bits;
    }

    private void noteSent(int node) {
        if (isNode(node)) {
            sentBy = node;
            sentIdentifier = stations[node].box.first().identifier;
        }
    }

    private void settleSent() {
        for (int i = 0; i < NODES; i++) {
            Station station = stations[i];
            if (station.sends) {
                int owner = station.box.first().owner;
                station.box.dropFirst();
                station.sentErrors = Math.max(0, station.sentErrors - 1);
                if (isConnected(owner)) {
                    connections[owner].sender.pieceIsSent();
                }
            } else if (station.hears()) {
                station.heardErrors = Math.max(0, station.heardErrors - 1);
            }
        }
    }

    private void settleError() {
        for (int i = 0; i < NODES; i++) {
            Station station = stations[i];
            if (station.sends) {
                station.countSendersError();
            } else if (station.hears()) {
                int more = wire.heard ? -1 : 1;
                station.heardErrors = Math.max(0, station.heardErrors + more);
            }
        }
    }

    private void deliver(int node) {
        if (!isNode(node)) {
            return;
        }
        Frame heard = stations[node].box.first();
        for (int c = 0; c < CONNECTIONS; c++) {
            Connection connection = connections[c];
            if (!connection.there) {
                continue;
            }
            if (heard.identifier == connection.x && stations[connection.to].hears()) {
                int answer = connection.hearer.hear(heard, connection.block);
                putAnswer(connection, answer);
            } else if (heard.identifier == connection.y && stations[connection.from].hears()) {
                connection.sender.hearAnswer(heard);
            }
        }
    }

    private void putAnswer(Connection connection, int answer) {
        if (answer == NONE) {
            return;
        }
        draft.clear(connection.y, NONE);
        draft.add(answer);
        draft.add(answer == GO_ON ? connection.block : 0);
        draft.add(0);
        stations[connection.to].box.put(draft);
    }

    private void endRoundOf(int c) {
        Connection connection = connections[c];
        if (!connection.there) {
            return;
        }
        Station station = stations[connection.from];
        connection.sender.endRound(station.off);
        connection.hearer.endRound();
        if (connection.sender.hasPieceToPut() && station.takesFrames()) {
            putNextPiece(c);
        }
    }

    private void putNextPiece(int c) {
        Connection connection = connections[c];
        draft.clear(connection.x, c);
        connection.sender.writeNextPiece(draft);
        stations[connection.from].box.put(draft);
    }

    /** What one node sends at a time; its owner is the connection of whose message it is a piece. */
    private static final class Frame {
        final int[] bytes = new int[FRAME_BYTES];
        int count;
        int identifier;
        int owner = NONE;

        void clear(int newIdentifier, int newOwner) {
            identifier = newIdentifier;
            owner = newOwner;
            count = 0;
        }

        void add(int value) {
            if (count < FRAME_BYTES) {
                bytes[count] = value & 255;
                count++;
            }
        }

        int at(int i) {
            return i >= 0 && i < count ? bytes[i] : NONE;
        }

        void copy(Frame other) {
            clear(other.identifier, other.owner);
            for (int i = 0; i < other.count; i++) {
                add(other.bytes[i]);
            }
        }
    }

    /** The stuffed bits of a frame, without the end. */
    private static final class BitRow {
        final int[] bits = new int[STUFFED_BITS];
        int count;
        // Bits before this one settle which of several senders goes on.
        int contested;
        private int alike;
        private int check;

        void encode(Frame frame) {
            count = 0;
            alike = 0;
            check = 0;
            addNumber(0, 1);
            addNumber(frame.identifier, 11);
            contested = count;
            addNumber(0, 3);
            addNumber(frame.count, 4);
            for (int i = 0; i < frame.count; i++) {
                addNumber(frame.bytes[i], 8);
            }
            addNumber(check, CHECK_BITS);
        }

        int at(int i) {
            return i >= 0 && i < count ? bits[i] : 1;
        }

        private void addNumber(int number, int width) {
            for (int shift = width - 1; shift >= 0; shift--) {
                int plain = (number >>> shift) & 1;
                moveCheck(plain);
                add(plain);
                if (alike == ALIKE_BEFORE_STUFFING) {
                    add(1 - plain);
                }
            }
        }

        private void moveCheck(int plain) {
            int out = (check >>> (CHECK_BITS - 1)) & 1;
            check = (check << 1) & CHECK_MASK;
            if (out != plain) {
                check ^= CHECK_XOR;
            }
        }

        private void add(int value) {
            if (count < STUFFED_BITS) {
                alike = count > 0 && bits[count - 1] == value ? alike + 1 : 1;
                bits[count] = value;
                count++;
            }
        }
    }

    /** Frames that wait to be sent, first in, first out, in a ring. */
    private static final class Box {
        private final Frame[] slots = new Frame[BOX_FRAMES];
        private int head;
        int count;

        Box() {
            for (int i = 0; i < BOX_FRAMES; i++) {
                slots[i] = new Frame();
            }
        }

        boolean isFull() {
            return count >= BOX_FRAMES;
        }

        void put(Frame frame) {
            if (!isFull()) {
                slots[(head + count) % BOX_FRAMES].copy(frame);
                count++;
            }
        }

        Frame first() {
            return slots[head];
        }

        void dropFirst() {
            if (count > 0) {
                head = (head + 1) % BOX_FRAMES;
                count--;
            }
        }

        void dropAll() {
            count = 0;
        }

        void disown(int owner) {
            for (int i = 0; i < BOX_FRAMES; i++) {
                if (slots[i].owner == owner) {
                    slots[i].owner = NONE;
                }
            }
        }
    }

    /** A node, with what it does in the present round. */
    private static final class Station {
        final Box box = new Box();
        final BitRow row = new BitRow();
        int sentErrors;
        int heardErrors;
        boolean off;
        boolean sends;

        boolean hears() {
            return !off && !sends;
        }

        boolean takesFrames() {
            return !off && !box.isFull();
        }

        void beginRound() {
            sends = !off && box.count > 0;
            if (sends) {
                row.encode(box.first());
            }
        }

        void countSendersError() {
            sentErrors += SENDER_PENALTY;
            if (sentErrors > OFF_ABOVE) {
                off = true;
                box.dropAll();
            }
        }

        boolean turnOn() {
            if (!off) {
                return false;
            }
            off = false;
            sentErrors = 0;
            heardErrors = 0;
            return true;
        }
    }

    /** The bits of one round, and what came of them. */
    private static final class Wire {
        final Station[] stations = new Station[NODES];
        private int alike;
        private int before;
        int spoilt = NONE;
        int bits;
        int error;
        boolean heard;
        boolean sent;

        Wire() {
            for (int i = 0; i < NODES; i++) {
                stations[i] = new Station();
            }
        }

        void carryBits() {
            if (leastSender() == NONE) {
                return;
            }
            for (int i = 0; i < STUFFED_BITS + END_BITS && error == NO_ERROR && !sent; i++) {
                carryBit(i);
            }
            spoilt = NONE;
        }

        int leastSender() {
            for (int i = 0; i < NODES; i++) {
                if (stations[i].sends) {
                    return i;
                }
            }
            return NONE;
        }

        void beginRound() {
            alike = 0;
            before = NONE;
            bits = 0;
            error = NO_ERROR;
            heard = false;
            sent = false;
            for (int i = 0; i < NODES; i++) {
                stations[i].beginRound();
            }
        }

        /** All that still send have sent the same bits so far, so the end begins for all at once. */
        private void carryBit(int i) {
            bits = i + 1;
            int leader = leastSender();
            if (leader == NONE || i < stations[leader].row.count) {
                carryFrameBit(i);
            } else {
                carryEndBit(i, i - stations[leader].row.count);
            }
        }

        private void carryFrameBit(int i) {
            int read = readAs(i, levelOfSenders(i));
            boolean wrong = false;
            for (int n = 0; n < NODES; n++) {
                Station station = stations[n];
                if (station.sends && station.row.at(i) != read) {
                    if (read == 0 && i < station.row.contested) {
                        station.sends = false;
                    } else {
                        wrong = true;
                    }
                }
            }
            alike = read == before ? alike + 1 : 1;
            before = read;
            if (wrong) {
                error = WRONG_BIT;
            } else if (alike > ALIKE_BEFORE_STUFFING) {
                error = SIX_ALIKE;
            }
        }

        private void carryEndBit(int i, int place) {
            boolean answers = place == ANSWER_PLACE;
            int read = readAs(i, answers && someoneHears() ? 0 : 1);
            if (answers && read == 1) {
                error = NO_ANSWER;
            } else if (!answers && read == 0) {
                error = WRONG_END;
            } else {
                heard = heard || place == END_BITS - 2;
                sent = place == END_BITS - 1;
            }
        }

        private int readAs(int i, int level) {
            return i == spoilt ? 1 - level : level;
        }

        private int levelOfSenders(int i) {
            for (int n = 0; n < NODES; n++) {
                if (stations[n].sends && stations[n].row.at(i) == 0) {
                    return 0;
                }
            }
            return 1;
        }

        private boolean someoneHears() {
            for (int n = 0; n < NODES; n++) {
                if (stations[n].hears()) {
                    return true;
                }
            }
            return false;
        }
    }

    private static final class Connection {
        final Sender sender = new Sender();
        final Hearer hearer = new Hearer();
        boolean there;
        int from;
        int to;
        int x;
        int y;
        int block;

        void open(int newFrom, int newTo, int newX, int newY, int newBlock) {
            there = true;
            from = newFrom;
            to = newTo;
            x = newX;
            y = newY;
            block = newBlock;
            sender.forget();
            hearer.forget();
        }

        boolean uses(int identifier) {
            return there && (x == identifier || y == identifier);
        }
    }

    /** Takes a message of a connection to pieces. */
    private static final class Sender {
        private final int[] message = new int[MESSAGE_BYTES];
        private int length;
        private int written;
        private int number;
        private boolean pieceInBox;
        private int block;
        private int sentOfBlock;
        private int waited;
        int state;
        int aborted;
        int whyAborted;
        int sentWholly;

        void forget() {
            state = IDLE;
            aborted = 0;
            whyAborted = 0;
            sentWholly = 0;
        }

        void start(int[] bytes, int count) {
            length = Math.min(count, MESSAGE_BYTES);
            System.arraycopy(bytes, 0, message, 0, length);
            written = 0;
            number = 0;
            state = SENDING;
            pieceInBox = false;
        }

        boolean hasPieceToPut() {
            return state == SENDING && !pieceInBox;
        }

        void writeNextPiece(Frame frame) {
            if (written > 0) {
                number++;
                frame.add((FOLLOWING_KIND << 4) + number % 16);
                writeBytes(frame, FOLLOWING_BYTES);
            } else if (length <= ONE_BYTES) {
                frame.add(length);
                writeBytes(frame, ONE_BYTES);
            } else {
                frame.add((FIRST_KIND << 4) + (length >> 8));
                frame.add(length & 255);
                writeBytes(frame, FIRST_BYTES);
            }
            pieceInBox = true;
        }

        private void writeBytes(Frame frame, int most) {
            int until = Math.min(length, written + most);
            for (int i = written; i < until; i++) {
                frame.add(message[i]);
            }
            written = until;
        }

        void pieceIsSent() {
            pieceInBox = false;
            if (written >= length) {
                state = IDLE;
                sentWholly++;
            } else if (number == 0) {
                waitForAnswer();
            } else {
                sentOfBlock++;
                if (sentOfBlock == block) {
                    waitForAnswer();
                }
            }
        }

        private void waitForAnswer() {
            state = WAITING;
            waited = JUST_BEGUN;
        }

        void hearAnswer(Frame answer) {
            if (state != WAITING) {
                return;
            }
            int kind = answer.at(0);
            if (kind == GO_ON && answer.count > 1) {
                state = SENDING;
                block = answer.at(1) & 15;
                sentOfBlock = 0;
            } else if (kind == WAIT_ANEW) {
                waitForAnswer();
            } else if (kind == REFUSED) {
                abort(ABORTED_BY_HEARER);
            }
        }

        void endRound(boolean off) {
            if (state == WAITING) {
                waited++;
                if (waited > PATIENCE) {
                    abort(ABORTED_BY_TIME);
                }
            }
            if (state != IDLE && off) {
                abort(ABORTED_BY_OFF);
            }
        }

        private void abort(int why) {
            state = IDLE;
            aborted++;
            whyAborted = why;
        }
    }

    /** Puts the pieces of a connection's messages together. */
    private static final class Hearer {
        private int[] gathered = new int[MESSAGE_BYTES];
        private int told;
        private int taken;
        private int number;
        private int quiet;
        boolean gathers;
        int failed;
        int whyFailed;
        int came;
        int[] kept = new int[MESSAGE_BYTES];
        int keptLength;

        void forget() {
            gathers = false;
            failed = 0;
            whyFailed = 0;
            came = 0;
            keptLength = 0;
        }

        /** Answers with the first byte of the frame that is due in answer, NONE if none is. */
        int hear(Frame frame, int block) {
            if (isOne(frame)) {
                failIfGathering();
                begin(frame.at(0));
                take(frame, 1, told);
                keepMessage();
                return NONE;
            }
            if (isFirst(frame)) {
                failIfGathering();
                return hearFirst(frame);
            }
            if (gathers && frame.at(0) >> 4 == FOLLOWING_KIND) {
                return hearFollowing(frame, block);
            }
            return NONE;
        }

        private static boolean isOne(Frame frame) {
            int size = frame.at(0);
            return size >= 1 && size <= ONE_BYTES && frame.count > size;
        }

        private static boolean isFirst(Frame frame) {
            return frame.count == FRAME_BYTES && frame.at(0) >> 4 == FIRST_KIND
                    && toldBy(frame) > ONE_BYTES;
        }

        private static int toldBy(Frame frame) {
            return ((frame.at(0) & 15) << 8) + frame.at(1);
        }

        private int hearFirst(Frame frame) {
            if (toldBy(frame) > MESSAGE_BYTES) {
                return REFUSED;
            }
            begin(toldBy(frame));
            take(frame, 2, FIRST_BYTES);
            gathers = true;
            quiet = JUST_BEGUN;
            return GO_ON;
        }

        private int hearFollowing(Frame frame, int block) {
            int due = Math.min(FOLLOWING_BYTES, told - taken);
            if ((frame.at(0) & 15) != (number + 1) % 16 || frame.count - 1 < due) {
                fail(FAILED_BY_ORDER);
                return NONE;
            }
            take(frame, 1, due);
            number++;
            quiet = JUST_BEGUN;
            if (taken >= told) {
                keepMessage();
                return NONE;
            }
            return block > 0 && number % block == 0 ? GO_ON : NONE;
        }

        private void begin(int size) {
            told = size;
            taken = 0;
            number = 0;
        }

        private void take(Frame frame, int start, int count) {
            for (int i = start; i < start + count && taken < MESSAGE_BYTES; i++) {
                gathered[taken] = frame.at(i);
                taken++;
            }
        }

        private void keepMessage() {
            int[] free = kept;
            kept = gathered;
            gathered = free;
            keptLength = told;
            came++;
            gathers = false;
        }

        private void failIfGathering() {
            if (gathers) {
                fail(FAILED_BY_NEW_ONE);
            }
        }

        private void fail(int why) {
            gathers = false;
            failed++;
            whyFailed = why;
        }

        void endRound() {
            if (gathers) {
                quiet++;
                if (quiet > PATIENCE) {
                    fail(FAILED_BY_TIME);
                }
            }
        }
    }
}
