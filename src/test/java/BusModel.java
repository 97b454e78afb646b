import java.util.ArrayList;
import java.util.List;

/**
 * The document once more, told with texts and lists and with no thought of speed: BusModelTest holds
 * StuffedBus against it. It shares no code with the class, and refuses by the same exceptions.
 */
final class BusModel {
    private record Letter(int identifier, List<Integer> bytes, Message of, String bits) {
        Letter(int identifier, List<Integer> bytes, Message of) {
            this(identifier, bytes, of, stuffed(identifier, bytes));
        }
    }

    private static final class Node {
        final List<Letter> box = new ArrayList<>();
        int sent;
        int heard;
        boolean off;
    }

    /** A message that is under way: all its pieces are cut beforehand. */
    private static final class Message {
        final List<List<Integer>> pieces = new ArrayList<>();
        int put = 0;
        int gone = 0;
        int untilWait = 1;
        boolean waiting;
        int began;
    }

    private static final class Line {
        int from;
        int to;
        int x;
        int y;
        int block;
        Message out;
        int aborted;
        int whyAborted;
        int wholly;
        List<Integer> gathered;
        int told;
        int followed;
        int lastPiece;
        int failed;
        int whyFailed;
        int came;
        List<Integer> latest = List.of();
    }

    private List<Integer> tape = new ArrayList<>();
    private final Node[] nodes = new Node[6];
    private final Line[] lines = new Line[8];
    private String coded = "";
    private int spoilt = -1;
    private int clock = 0;
    private int[] latest = {-1, -1, 0, 0};

    BusModel() {
        for (int i = 0; i < 6; i++) {
            nodes[i] = new Node();
        }
    }

    static String stuffed(int identifier, List<Integer> bytes) {
        StringBuilder plain = new StringBuilder("0");
        plain.append(binary(identifier, 11)).append("000").append(binary(bytes.size(), 4));
        for (int b : bytes) {
            plain.append(binary(b, 8));
        }
        plain.append(remainder(plain.toString()));
        StringBuilder all = new StringBuilder();
        for (char bit : plain.toString().toCharArray()) {
            all.append(bit);
            if (all.toString().endsWith("00000")) {
                all.append('1');
            } else if (all.toString().endsWith("11111")) {
                all.append('0');
            }
        }
        return all.toString();
    }

    private static String binary(int value, int width) {
        String digits = "000000000000000" + Integer.toBinaryString(value);
        return digits.substring(digits.length() - width);
    }

    /** The check by long division on paper: fifteen 0s behind the bits, divided by 1 and 0x4599. */
    private static String remainder(String bits) {
        char[] rest = (bits + "000000000000000").toCharArray();
        String divisor = "1" + binary(0x4599, 15);
        for (int i = 0; i < bits.length(); i++) {
            for (int j = 0; rest[i] == '1' && j < 16; j++) {
                int at = i + 15 - j;
                rest[at] = rest[at] == divisor.charAt(15 - j) ? '0' : '1';
            }
        }
        return new String(rest, bits.length(), 15);
    }

    /** How many stuffed bits the start and the identifier take, with what is put in behind them. */
    private static int contested(String stuffed) {
        int plain = 0;
        int i = 0;
        while (plain < 12) {
            i++;
            plain++;
            String upTo = stuffed.substring(0, i);
            if (upTo.endsWith("00000") || upTo.endsWith("11111")) {
                i++;
            }
        }
        return i;
    }

    int feed(int a, int b, int c, int d, int e) {
        if (tape.size() > 400) {
            throw new UnsupportedOperationException();
        }
        for (int number : new int[] {a, b, c, d, e}) {
            for (byte part : java.nio.ByteBuffer.allocate(4).putInt(number).array()) {
                tape.add(Byte.toUnsignedInt(part));
            }
        }
        return tape.size();
    }

    void end(int n) {
        if (n < 0 || n > tape.size()) {
            throw new IllegalArgumentException();
        }
        tape = new ArrayList<>(tape.subList(0, n));
    }

    void connect(int c, int from, int to, int x, int y, int block) {
        if (c < 0 || c > 7 || from < 0 || from > 5 || to < 0 || to > 5) {
            throw new IndexOutOfBoundsException();
        }
        List<Integer> taken = new ArrayList<>();
        for (int i = 0; i < 8; i++) {
            if (i != c && lines[i] != null) {
                taken.addAll(List.of(lines[i].x, lines[i].y));
            }
        }
        if (from == to || x == y || x < 0 || x > 2047 || y < 0 || y > 2047
                || taken.contains(x) || taken.contains(y) || block < 0 || block > 15) {
            throw new IllegalArgumentException();
        }
        Line line = new Line();
        line.from = from;
        line.to = to;
        line.x = x;
        line.y = y;
        line.block = block;
        lines[c] = line;
    }

    private Line line(int c) {
        if (c < 0 || c > 7 || lines[c] == null) {
            throw new IndexOutOfBoundsException();
        }
        return lines[c];
    }

    private Node at(int node) {
        if (node < 0 || node > 5) {
            throw new IndexOutOfBoundsException();
        }
        return nodes[node];
    }

    void send(int c) {
        Line line = line(c);
        Node node = nodes[line.from];
        if (line.out != null || node.off || node.box.size() == 16) {
            throw new IllegalStateException();
        }
        int n = tape.size();
        if (n == 0 || n > 400) {
            throw new IllegalArgumentException();
        }
        Message message = new Message();
        int cut = n < 8 ? n : 6;
        List<Integer> opening = new ArrayList<>(n < 8 ? List.of(n) : List.of((4096 + n) / 256, n % 256));
        opening.addAll(tape.subList(0, cut));
        message.pieces.add(opening);
        for (int k = 1; cut < n; k++) {
            List<Integer> piece = new ArrayList<>(List.of(32 + k % 16));
            int until = Math.min(cut + 7, n);
            piece.addAll(tape.subList(cut, until));
            cut = until;
            message.pieces.add(piece);
        }
        tape = new ArrayList<>();
        line.out = message;
        putPiece(line);
    }

    private void putPiece(Line line) {
        Message message = line.out;
        nodes[line.from].box.add(new Letter(line.x, message.pieces.get(message.put), message));
        message.put++;
    }

    int frame(int node, int identifier) {
        Node at = at(node);
        if (at.off || at.box.size() == 16) {
            throw new IllegalStateException();
        }
        checkFrame(identifier);
        at.box.add(new Letter(identifier, tape, null));
        tape = new ArrayList<>();
        return at.box.size();
    }

    private void checkFrame(int identifier) {
        if (identifier < 0 || identifier > 2047 || tape.size() > 8) {
            throw new IllegalArgumentException();
        }
    }

    void spoil(int k) {
        if (k < 0 || k > 199) {
            throw new IllegalArgumentException();
        }
        spoilt = k;
    }

    int rounds(int n) {
        if (n < 0 || n > 1000) {
            throw new IllegalArgumentException();
        }
        int bits = 0;
        for (int i = 0; i < n; i++) {
            bits += round();
        }
        return bits;
    }

    int latest(int what) {
        if (what < 0 || what > 3) {
            throw new IllegalArgumentException();
        }
        return latest[what];
    }

    int node(int node, int what) {
        Node at = at(node);
        if (what < 0 || what > 3) {
            throw new IllegalArgumentException();
        }
        return new int[] {at.sent, at.heard, at.off ? 1 : 0, at.box.size()}[what];
    }

    boolean restart(int node) {
        boolean was = at(node).off;
        if (was) {
            nodes[node] = new Node();
        }
        return was;
    }

    int about(int c, int what) {
        Line line = line(c);
        if (what < 0 || what > 8) {
            throw new IllegalArgumentException();
        }
        int state = line.out == null ? 0 : line.out.waiting ? 2 : 1;
        return new int[] {state, line.aborted, line.whyAborted, line.wholly,
            line.gathered == null ? 0 : 1, line.failed, line.whyFailed, line.came,
            line.latest.size()}[what];
    }

    int byteAt(int c, int i) {
        Line line = line(c);
        if (i < 0 || i >= line.latest.size()) {
            throw new IndexOutOfBoundsException();
        }
        return line.latest.get(i);
    }

    int coded(int identifier) {
        checkFrame(identifier);
        coded = stuffed(identifier, tape);
        return coded.length();
    }

    int bit(int i) {
        if (i < 0 || i >= coded.length()) {
            throw new IndexOutOfBoundsException();
        }
        return coded.charAt(i) - '0';
    }

    int round() {
        clock++;
        List<Integer> senders = new ArrayList<>();
        List<Integer> hearers = new ArrayList<>();
        for (int i = 0; i < 6; i++) {
            if (!nodes[i].off) {
                (nodes[i].box.isEmpty() ? hearers : senders).add(i);
            }
        }
        latest = new int[] {-1, -1, 0, 0};
        if (!senders.isEmpty()) {
            playBits(senders, hearers);
            spoilt = -1;
        }
        for (Line line : lines) {
            if (line != null) {
                endRound(line);
            }
        }
        return latest[3];
    }

    private char flip(char bit) {
        return bit == '0' ? '1' : '0';
    }

    private void playBits(List<Integer> senders, List<Integer> hearers) {
        String read = "";
        int error = 0;
        String frame = null;
        while (error == 0 && frame == null) {
            int i = read.length();
            char bus = '1';
            for (int s : senders) {
                bus = stuffedFirst(s).charAt(i) == '0' ? '0' : bus;
            }
            char seen = i == spoilt ? flip(bus) : bus;
            read += seen;
            for (int s : List.copyOf(senders)) {
                String mine = stuffedFirst(s);
                if (mine.charAt(i) == '1' && seen == '0' && i < contested(mine)) {
                    senders.remove(Integer.valueOf(s));
                    hearers.add(s);
                } else if (mine.charAt(i) != seen) {
                    error = 1;
                }
            }
            if (error == 0 && (read.endsWith("000000") || read.endsWith("111111"))) {
                error = 2;
            }
            if (!senders.isEmpty() && stuffedFirst(senders.get(0)).equals(read)) {
                frame = read;
            }
        }
        String due = hearers.isEmpty() ? "1111111111" : "1011111111";
        int right = 0;
        for (int e = 0; e < 10 && error == 0; e++) {
            char seen = read.length() == spoilt ? flip(due.charAt(e)) : due.charAt(e);
            read += seen;
            if (e == 1 && seen == '1') {
                error = 4;
            } else if (e != 1 && seen == '0') {
                error = 3;
            } else {
                right++;
            }
        }
        latest[2] = error;
        latest[3] = read.length();
        settle(senders, hearers, right);
    }

    private String stuffedFirst(int node) {
        return nodes[node].box.get(0).bits;
    }

    private void settle(List<Integer> senders, List<Integer> hearers, int right) {
        if (right >= 9) {
            Letter letter = nodes[senders.get(0)].box.get(0);
            for (Line line : lines) {
                if (line != null && line.x == letter.identifier && hearers.contains(line.to)) {
                    hear(line, letter.bytes);
                }
                if (line != null && line.y == letter.identifier && hearers.contains(line.from)) {
                    hearBack(line, letter.bytes);
                }
            }
        }
        for (int h : hearers) {
            nodes[h].heard = Math.max(0, nodes[h].heard + (right >= 9 ? -1 : 1));
        }
        for (int s : senders) {
            Node node = nodes[s];
            if (right == 10) {
                node.sent = Math.max(0, node.sent - 1);
                Letter letter = node.box.remove(0);
                latest[0] = letter.identifier;
                latest[1] = latest[1] < 0 ? s : Math.min(s, latest[1]);
                for (Line line : lines) {
                    if (line != null && line.out != null && line.out == letter.of) {
                        pieceGone(line);
                    }
                }
            } else {
                node.sent += 8;
                node.off = node.sent > 255;
                if (node.off) {
                    node.box.clear();
                }
            }
        }
    }

    private void pieceGone(Line line) {
        Message message = line.out;
        message.gone++;
        message.untilWait--;
        if (message.gone == message.pieces.size()) {
            line.out = null;
            line.wholly++;
        } else if (message.untilWait == 0) {
            message.waiting = true;
            message.began = clock;
        }
    }

    private void hearBack(Line line, List<Integer> bytes) {
        Message message = line.out;
        if (message == null || !message.waiting || bytes.isEmpty()) {
            return;
        }
        switch (bytes.get(0)) {
            case 48 -> {
                if (bytes.size() >= 2) {
                    message.waiting = false;
                    int block = bytes.get(1) % 16;
                    message.untilWait = block == 0 ? 1000 : block;
                }
            }
            case 49 -> message.began = clock;
            case 50 -> abort(line, 1);
            default -> { }
        }
    }

    private void abort(Line line, int why) {
        line.out = null;
        line.aborted++;
        line.whyAborted = why;
    }

    private void fail(Line line, int why) {
        line.gathered = null;
        line.failed++;
        line.whyFailed = why;
    }

    private void came(Line line, List<Integer> message) {
        line.latest = List.copyOf(message);
        line.came++;
        line.gathered = null;
    }

    private void answer(Line line, int... bytes) {
        if (nodes[line.to].box.size() < 16) {
            List<Integer> list = new ArrayList<>();
            for (int b : bytes) {
                list.add(b);
            }
            nodes[line.to].box.add(new Letter(line.y, list, null));
        }
    }

    private void hear(Line line, List<Integer> bytes) {
        int head = bytes.isEmpty() ? 255 : bytes.get(0);
        int number = bytes.size() < 2 ? 0 : head * 256 + bytes.get(1) - 4096;
        boolean one = 1 <= head && head <= 7 && bytes.size() - 1 >= head;
        boolean first = bytes.size() == 8 && 8 <= number && number < 4096;
        if (line.gathered != null && (one || first)) {
            fail(line, 3);
        }
        if (one) {
            came(line, bytes.subList(1, head + 1));
        } else if (first && number > 400) {
            answer(line, 50, 0, 0);
        } else if (first) {
            line.gathered = new ArrayList<>(bytes.subList(2, 8));
            line.told = number;
            line.followed = 0;
            line.lastPiece = clock;
            answer(line, 48, line.block, 0);
        } else if (line.gathered != null && 32 <= head && head <= 47) {
            follow(line, bytes);
        }
    }

    private void follow(Line line, List<Integer> bytes) {
        int due = Math.min(7, line.told - line.gathered.size());
        line.followed++;
        if (bytes.get(0) != 32 + line.followed % 16 || bytes.size() <= due) {
            fail(line, 1);
            return;
        }
        line.gathered.addAll(bytes.subList(1, due + 1));
        line.lastPiece = clock;
        if (line.gathered.size() == line.told) {
            came(line, line.gathered);
        } else if (line.block != 0 && line.followed % line.block == 0) {
            answer(line, 48, line.block, 0);
        }
    }

    private void endRound(Line line) {
        Message message = line.out;
        Node node = nodes[line.from];
        if (message != null && message.waiting && clock - message.began > 40) {
            abort(line, 2);
        } else if (message != null && node.off) {
            abort(line, 3);
        } else if (message != null && !message.waiting && message.put == message.gone
                && node.box.size() < 16) {
            putPiece(line);
        }
        if (line.gathered != null && clock - line.lastPiece > 40) {
            fail(line, 2);
        }
    }
}
