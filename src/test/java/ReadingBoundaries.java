/** Promises 13 to 21: the calls that only read. */
final class ReadingBoundaries extends Bench {
    private static final int[] NO_LEDGERS = {-1, 2, Integer.MIN_VALUE, Integer.MAX_VALUE};
    private static final int[] NO_ENDS = {-1, 3, Integer.MIN_VALUE, Integer.MAX_VALUE};

    static void run() {
        heightAndRoot();
        endsAndPackets();
        tokens();
    }

    private static void heightAndRoot() {
        chapter("Promise 13: height");
        sentence("`int height(int l)`: The height of ledger l;", ReadingBoundaries::height);
        sentence("WRONG.", () -> {
            for (int l : NO_LEDGERS) {
                refused("ledger " + l, () -> opened(4, false), x -> x.height(l), WRONG);
            }
        });
        chapter("Promise 14: root");
        sentence("`int root(int l, int h)`: The root of ledger l's state at height h;",
                ReadingBoundaries::root);
        sentence("0 when it had none or keeps it no more.", ReadingBoundaries::noRoot);
        chapter("Promise 15: knows");
        sentence("`boolean knows(int l, int h)`: Whether the client of ledger l knows height h.",
                ReadingBoundaries::knows);
    }

    private static void height() {
        TwinLedgers x = new TwinLedgers(4);
        due("at first", x.height(0), 0);
        tick(x, 0, 3);
        due("ledger 0", x.height(0), 3);
        due("ledger 1", x.height(1), 0);
        due("asking changes nothing", x.height(0), 3);
    }

    private static void root() {
        TwinLedgers x = new TwinLedgers(4);
        x.init(0, 0, false);
        x.init(1, 1, true);
        x.tick(0);
        x.tick(1);
        due("ledger 0", x.root(0, 1), rootOf(4096, 2));
        due("ledger 1", x.root(1, 1), rootOf(4097, 3, 8193, 1));
        due("asking changes nothing", x.root(0, 1), rootOf(4096, 2));
        x.init(0, 2, false);
        x.tick(0);
        due("the older one", x.root(0, 1), rootOf(4096, 2));
        due("the newer one", x.root(0, 2), rootOf(4096, 2, 4098, 2));
    }

    private static void noRoot() {
        TwinLedgers x = new TwinLedgers(4);
        x.init(0, 0, false);
        int[] none = {1, 0, -1, 8, Integer.MIN_VALUE, Integer.MAX_VALUE};
        for (int h : none) {
            due("before a block, root of " + h, x.root(0, h), 0);
        }
        tick(x, 0, 8);
        due("the eighth last", x.root(0, 1) != 0, true);
        x.tick(0);
        due("the ninth last", x.root(0, 1), 0);
        due("the eighth last", x.root(0, 2) != 0, true);
        due("the last", x.root(0, 9) != 0, true);
        due("the next", x.root(0, 10), 0);
        due("height 0", x.root(0, 0), 0);
        due("below 0", x.root(0, -7), 0);
        due("the least int", x.root(0, Integer.MIN_VALUE), 0);
        due("the greatest int", x.root(0, Integer.MAX_VALUE), 0);
        for (int l : NO_LEDGERS) {
            due("ledger " + l, x.root(l, 9), 0);
        }
    }

    private static void knows() {
        TwinLedgers x = new TwinLedgers(4);
        tick(x, 0, 3);
        x.update(1, 2, ALL, false);
        int[] not = {1, 3, 4, 0, -1, -2, 512, 513, Integer.MIN_VALUE, Integer.MAX_VALUE};
        for (int h : not) {
            due("height " + h, x.knows(1, h), false);
        }
        due("height 2", x.knows(1, 2), true);
        due("the other client", x.knows(0, 2), false);
        for (int l : NO_LEDGERS) {
            due("ledger " + l, x.knows(l, 2), false);
        }
        tick(x, 0, 20);
        due("long after its state is gone", x.knows(1, 2), true);
    }

    private static void endsAndPackets() {
        chapter("Promise 16: end");
        sentence("`int end(int l, int c, int what)`: Of end c of ledger l: its state (0 NONE) for what "
                + "0, 1 if it is ordered for 1, how many packets it sent for 2,",
                ReadingBoundaries::endState);
        sentence("the next to be received for 3 and to be acknowledged for 4 (1 at first);",
                ReadingBoundaries::endNext);
        sentence("WRONG when there is none, or for another what.", ReadingBoundaries::noEnd);
        chapter("Promise 17: packet");
        sentence("`int packet(int l, int c, int s)`: Packet s of end c of ledger l: 0 sent, not "
                + "settled; 1 acknowledged as taken; 2 acknowledged as not taken; 3 timed out;",
                ReadingBoundaries::packet);
        sentence("WRONG when there is none.", ReadingBoundaries::noPacket);
        chapter("Promise 18: limit");
        sentence("`int limit(int l, int c, int s)`: The limit of packet s of end c of ledger l;",
                ReadingBoundaries::limit);
        sentence("WRONG when there is none.", ReadingBoundaries::noLimit);
    }

    private static void endState() {
        for (boolean ordered : ORDERS) {
            for (int state = NONE; state <= CLOSED; state++) {
                TwinLedgers x = HandshakeBoundaries.inState(state, ordered);
                due("state", x.end(1, 0, 0), state);
                due("order", x.end(1, 0, 1), ordered && state != NONE ? 1 : 0);
                due("sent", x.end(1, 0, 2), 0);
            }
        }
        TwinLedgers y = openedAll(16);
        for (int s = 1; s <= 12; s++) {
            y.send(0, 1, who(0, 3), 0, 1);
            due("sent", y.end(0, 1, 2), s);
        }
        y.send(0, 1, who(0, 3), 0, 1);
        due("a 13th is not sent", y.end(0, 1, 2), 12);
        y.round();
        y.round();
        due("settled ones count", y.end(0, 1, 2), 12);
        due("the other ends", y.end(0, 0, 2) + y.end(0, 2, 2) + y.end(1, 1, 2), 0);
    }

    private static void endNext() {
        TwinLedgers x = new TwinLedgers(4);
        for (int i = 0; i < 6; i++) {
            due("to be received, NONE", x.end(i / 3, i % 3, 3), 1);
            due("to be acknowledged, NONE", x.end(i / 3, i % 3, 4), 1);
        }
        TwinLedgers y = opened(16, true);
        for (int s = 1; s <= 12; s++) {
            y.send(0, 0, who(0, s % 4), 0, 1);
            y.round();
            due("to be received", y.end(1, 0, 3), s + 1);
            due("to be acknowledged", y.end(0, 0, 4), s);
        }
        y.round();
        due("to be acknowledged at last", y.end(0, 0, 4), 13);
        due("the sender received none", y.end(0, 0, 3), 1);
        due("the receiver has no answer", y.end(1, 0, 4), 1);
        y.close(1, 0);
        due("to be received, CLOSED", y.end(1, 0, 3), 13);
        TwinLedgers z = opened(16, false);
        z.send(0, 0, who(0, 1), 0, 1);
        z.round();
        z.round();
        due("no order, nothing next to be received", z.end(1, 0, 3), 1);
        due("no order, nothing next to be acknowledged", z.end(0, 0, 4), 1);
    }

    private static void noEnd() {
        TwinLedgers x = opened(4, true);
        for (int what = 0; what < 5; what++) {
            for (int l : NO_LEDGERS) {
                due("ledger " + l, x.end(l, 0, what), WRONG);
            }
            for (int c : NO_ENDS) {
                due("end " + c, x.end(0, c, what), WRONG);
            }
        }
        int[] others = {-1, 5, 6, Integer.MIN_VALUE, Integer.MAX_VALUE};
        for (int what : others) {
            due("what " + what, x.end(0, 0, what), WRONG);
            due("what " + what + " of NONE", x.end(0, 1, what), WRONG);
        }
    }

    private static void packet() {
        TwinLedgers x = opened(3, false);
        x.send(0, 0, who(0, 1), 0, 1);
        x.send(0, 0, who(0, 3), 0, 1);
        x.send(0, 0, who(0, 1), 0, 1);
        int h = publish(x, 0);
        for (int s = 1; s <= 3; s++) {
            due("sent", x.packet(0, 0, s), 0);
        }
        x.receive(1, 0, 1, h, false);
        x.receive(1, 0, 2, h, false);
        due("received, not settled", x.packet(0, 0, 1), 0);
        while (x.height(1) < 6) {
            publish(x, 1);
        }
        x.acknowledge(0, 0, 1, 6);
        x.acknowledge(0, 0, 2, 6);
        x.timeout(0, 0, 3, 6, false);
        due("taken", x.packet(0, 0, 1), 1);
        due("not taken", x.packet(0, 0, 2), 2);
        due("timed out", x.packet(0, 0, 3), 3);
        x.close(0, 0);
        due("of a CLOSED end", x.packet(0, 0, 1), 1);
    }

    private static void noPacket() {
        TwinLedgers x = withTwelveSent();
        due("the first", x.packet(0, 0, 1), 0);
        due("the last", x.packet(0, 0, 12), 0);
        int[] none = {0, 13, -1, Integer.MIN_VALUE, Integer.MAX_VALUE};
        for (int s : none) {
            due("packet " + s, x.packet(0, 0, s), WRONG);
        }
        due("of another end", x.packet(0, 1, 1), WRONG);
        due("of the other one", x.packet(1, 0, 1), WRONG);
        for (int l : NO_LEDGERS) {
            due("ledger " + l, x.packet(l, 0, 1), WRONG);
        }
        for (int c : NO_ENDS) {
            due("end " + c, x.packet(0, c, 1), WRONG);
        }
        due("one not sent yet", opened(4, false).packet(0, 0, 1), WRONG);
    }

    private static TwinLedgers withTwelveSent() {
        TwinLedgers x = opened(5, false);
        for (int s = 1; s <= 12; s++) {
            x.send(0, 0, who(0, 1), 0, 1);
        }
        return x;
    }

    private static void limit() {
        TwinLedgers x = opened(5, false);
        for (int s = 1; s <= 12; s++) {
            x.send(0, 0, who(0, 1), 0, 1);
            publish(x, 1);
        }
        for (int s = 1; s <= 12; s++) {
            due("limit of " + s, x.limit(0, 0, s), 3 + s - 1 + 5);
        }
        x.round();
        due("of one that is settled", x.limit(0, 0, 1), 8);
        due("timed out", x.packet(0, 0, 1), 3);
    }

    private static void noLimit() {
        TwinLedgers x = withTwelveSent();
        due("the last", x.limit(0, 0, 12), 8);
        int[] none = {0, 13, -1, Integer.MIN_VALUE, Integer.MAX_VALUE};
        for (int s : none) {
            due("packet " + s, x.limit(0, 0, s), WRONG);
        }
        due("of another end", x.limit(0, 1, 1), WRONG);
        due("of the other one", x.limit(1, 0, 1), WRONG);
        for (int l : NO_LEDGERS) {
            due("ledger " + l, x.limit(l, 0, 1), WRONG);
        }
        for (int c : NO_ENDS) {
            due("end " + c, x.limit(0, c, 1), WRONG);
        }
    }

    private static void tokens() {
        chapter("Promise 19: balance");
        sentence("`int balance(int l, int u, int kind)`: How much of a kind user u of ledger l has;",
                ReadingBoundaries::balance);
        sentence("0 when one is not there.", ReadingBoundaries::noBalance);
        chapter("Promise 20: escrow");
        sentence("`int escrow(int l, int c, int kind)`: How much of a kind is in the escrow of end c "
                + "of ledger l;", ReadingBoundaries::escrow);
        sentence("0 when one is not there.", ReadingBoundaries::noEscrow);
        chapter("Promise 21: voucher");
        sentence("`int voucher(int l, int k)`: Of voucher k (1 or more) of ledger l: 4 * its base + "
                + "the channel by which it came;", ReadingBoundaries::voucher);
        sentence("WRONG when there is none.", ReadingBoundaries::noVoucher);
    }

    private static void balance() {
        TwinLedgers x = withFiveVouchers();
        int[] first = {700, 100, 100, 100, 0, 0};
        int[] second = {1000, 0, 0, 0, 40, 40};
        for (int kind = 0; kind <= 5; kind++) {
            due("user 0, kind " + kind, x.balance(1, 0, kind), first[kind]);
            due("user 1, kind " + kind, x.balance(1, 1, kind), second[kind]);
            due("user 2, kind " + kind, x.balance(1, 2, kind), kind == 0 ? 1000 : 0);
        }
        TwinLedgers y = opened(16, false);
        for (int u = 0; u < 4; u++) {
            y.send(0, 0, who(u, 1), 0, 1000);
        }
        y.round();
        due("all that there is", y.balance(1, 1, 1), 4000);
        for (int u = 0; u < 4; u++) {
            due("nothing left", y.balance(0, u, 0), 0);
        }
        for (int s = 1; s <= 4; s++) {
            due("a thousand at a time", y.send(1, 0, who(1, 2), 1, 1000), s);
        }
        y.round();
        due("all of it back to one", y.balance(0, 2, 0), 4000);
    }

    private static void noBalance() {
        TwinLedgers x = withFiveVouchers();
        int[] noKinds = {-1, 6, Integer.MIN_VALUE, Integer.MAX_VALUE};
        int[] noUsers = {-1, 4, Integer.MIN_VALUE, Integer.MAX_VALUE};
        for (int kind : noKinds) {
            due("kind " + kind, x.balance(1, 0, kind), 0);
        }
        due("kind 4 of ledger 0", x.balance(0, 0, 4), 0);
        for (int u : noUsers) {
            due("user " + u, x.balance(1, u, 0), 0);
        }
        for (int l : NO_LEDGERS) {
            due("ledger " + l, x.balance(l, 0, 0), 0);
        }
    }

    private static void escrow() {
        TwinLedgers x = withFiveVouchers();
        for (int c = 0; c < 3; c++) {
            due("kind 0 at end " + c, x.escrow(0, c, 0), 100);
            due("kind 1 at end " + c, x.escrow(0, c, 1), 0);
            due("kind 2 at end " + c, x.escrow(0, c, 2), c == 0 ? 40 : 0);
            due("kind 3 at end " + c, x.escrow(0, c, 3), c == 1 ? 40 : 0);
        }
        TwinLedgers y = opened(16, false);
        for (int u = 0; u < 4; u++) {
            y.send(0, 0, who(u, 1), 0, 1000);
        }
        due("all that there is", y.escrow(0, 0, 0), 4000);
        y.close(0, 0);
        due("of a CLOSED end", y.escrow(0, 0, 0), 4000);
    }

    private static void noEscrow() {
        TwinLedgers x = withFiveVouchers();
        int[] noKinds = {-1, 4, 6, Integer.MIN_VALUE, Integer.MAX_VALUE};
        for (int kind : noKinds) {
            due("kind " + kind, x.escrow(0, 0, kind), 0);
        }
        for (int c : NO_ENDS) {
            due("end " + c, x.escrow(0, c, 0), 0);
        }
        for (int l : NO_LEDGERS) {
            due("ledger " + l, x.escrow(l, 0, 0), 0);
        }
        due("an end that is NONE", opened(4, false).escrow(0, 1, 0), 0);
    }

    private static void voucher() {
        TwinLedgers x = withFiveVouchers();
        int[] due = {0, 1, 2, 4 * 2, 4 * 3 + 1};
        for (int k = 1; k <= 5; k++) {
            due("voucher " + k, x.voucher(1, k), due[k - 1]);
        }
        TwinLedgers y = opened(16, false);
        y.send(0, 0, who(0, 0), 0, 5);
        y.round();
        y.send(1, 0, who(0, 0), 1, 5);
        y.round();
        due("nobody has of it", y.balance(1, 0, 1), 0);
        due("it is there still", y.voucher(1, 1), 0);
    }

    private static void noVoucher() {
        TwinLedgers x = withFiveVouchers();
        int[] none = {0, 6, -1, Integer.MIN_VALUE, Integer.MAX_VALUE};
        for (int k : none) {
            due("voucher " + k, x.voucher(1, k), WRONG);
        }
        due("voucher 3 of ledger 0", x.voucher(0, 3), 2);
        due("voucher 4 of ledger 0", x.voucher(0, 4), WRONG);
        for (int l : NO_LEDGERS) {
            due("ledger " + l, x.voucher(l, 1), WRONG);
        }
        due("voucher 1 of a new object", new TwinLedgers(4).voucher(0, 1), WRONG);
    }
}
