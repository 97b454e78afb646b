/** Checks that several tests make of a bus. */
final class Due {
    private Due() {
    }

    static void latestIs(String when, StuffedBus bus, int identifier, int node, int error, int bits) {
        Check.equal(when + ": identifier", bus.latest(0), identifier);
        Check.equal(when + ": sender", bus.latest(1), node);
        Check.equal(when + ": error", bus.latest(2), error);
        Check.equal(when + ": bits", bus.latest(3), bits);
    }

    static void countsAre(String when, StuffedBus bus, int node, int sent, int heard) {
        Check.equal(when + ": node " + node + " sent", bus.node(node, 0), sent);
        Check.equal(when + ": node " + node + " heard", bus.node(node, 1), heard);
    }

    /** Of connection 0, as far as it is told here. */
    static void aboutIs(String when, StuffedBus bus, int... due) {
        for (int what = 0; what < due.length; what++) {
            Check.equal(when + ": about 0 " + what, bus.about(0, what), due[what]);
        }
    }

    static void messageIs(String when, StuffedBus bus, int c, int... due) {
        Check.equal(when + ": length", bus.about(c, 8), due.length);
        for (int i = 0; i < due.length; i++) {
            Check.equal(when + ": byte " + i, bus.byteAt(c, i), due[i]);
        }
        Check.refuses(when + ": behind", IndexOutOfBoundsException.class, () -> bus.byteAt(c, due.length));
        Check.refuses(when + ": -1", IndexOutOfBoundsException.class, () -> bus.byteAt(c, -1));
    }

    static void goes(String what, StuffedBus bus, int node, int identifier, int... bytes) {
        Check.equal(what + ": bits", bus.round(), Buses.bitsOf(identifier, bytes));
        Check.equal(what + ": identifier", bus.latest(0), identifier);
        Check.equal(what + ": node", bus.latest(1), node);
    }

    /** A frame with the same identifier and bytes from node 5 goes together with the one that is due. */
    static void goesJustSo(String what, StuffedBus bus, int node, int identifier, int... bytes) {
        Buses.frame(bus, 5, identifier, bytes);
        goes(what, bus, node, identifier, bytes);
        Check.equal(what + ": went together", bus.node(5, 3), 0);
    }
}
