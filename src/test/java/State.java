/** What a bus answers when it is asked all (of the bytes of long messages some), as a text. */
final class State {
    private final StuffedBus bus;
    private final StringBuilder text = new StringBuilder();

    private State(StuffedBus bus) {
        this.bus = bus;
    }

    static String of(StuffedBus bus) {
        State state = new State(bus);
        state.addRounds();
        for (int c = 0; c < 8; c++) {
            state.addConnection(c);
        }
        state.addBits();
        return state.text.toString();
    }

    private void addRounds() {
        text.append("latest");
        for (int what = 0; what < 4; what++) {
            text.append(' ').append(bus.latest(what));
        }
        for (int node = 0; node < 6; node++) {
            text.append("; node ").append(node);
            for (int what = 0; what < 4; what++) {
                text.append(' ').append(bus.node(node, what));
            }
        }
    }

    private void addConnection(int c) {
        try {
            bus.about(c, 0);
        } catch (IndexOutOfBoundsException none) {
            return;
        }
        text.append("; connection ").append(c);
        for (int what = 0; what < 9; what++) {
            text.append(' ').append(bus.about(c, what));
        }
        text.append(" with");
        int length = bus.about(c, 8);
        // An object has 512 calls: all bytes of long messages would be too many.
        int step = length > 40 ? 7 : 1;
        for (int i = 0; i < length; i += step) {
            text.append(' ').append(bus.byteAt(c, i));
        }
        if (length > 0) {
            text.append(", at last ").append(bus.byteAt(c, length - 1));
        }
    }

    private void addBits() {
        text.append("; coded ");
        for (int i = 0; i < 200; i++) {
            try {
                text.append(bus.bit(i));
            } catch (IndexOutOfBoundsException end) {
                return;
            }
        }
    }
}
