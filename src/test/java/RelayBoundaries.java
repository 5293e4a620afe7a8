/** Promise 12: a round of the relayer. */
final class RelayBoundaries extends Bench {
    static void run() {
        chapter("Promise 12: round");
        sentence("`int round()`: A round of the relayer: a block of ledger 0, one of ledger 1;",
                RelayBoundaries::blocks);
        sentence("both clients get the other one's newest header, signed by all;",
                RelayBoundaries::headers);
        sentence("then for ledger 0, after that for ledger 1, with proofs at the other one's newest "
                + "height:", RelayBoundaries::bothLedgers);
        sentence("for each end c by rising numbers: every packet of the other one by rising numbers "
                + "is tried to be received there;", RelayBoundaries::receives);
        sentence("then for each end every packet of its own is tried to be acknowledged;",
                RelayBoundaries::acknowledges);
        sentence("then for each end every packet of its own is tried to be timed out.",
                RelayBoundaries::timesOut);
        sentence("Answers how many of the packets that were tried were received, acknowledged or "
                + "timed out.", RelayBoundaries::counts);
    }

    private static void blocks() {
        TwinLedgers x = new TwinLedgers(4);
        tick(x, 1, 3);
        x.round();
        due("height of 0", x.height(0), 1);
        due("height of 1", x.height(1), 4);
        TwinLedgers y = opened(16, false);
        y.send(0, 0, who(0, 1), 0, 10);
        due("received", y.round(), 1);
        due("the block has what was sent before", y.root(0, 4),
                rootOf(4096, 6, 12289, print(0, 10, who(0, 1), 19, 0)));
        due("the block has nothing of the round", y.root(1, 4), rootOf(4096, 6));
        dueStore("the next block has", y, 1, 4096, 6, 16385, 1, 20481, 1);
    }

    private static void headers() {
        TwinLedgers x = new TwinLedgers(4);
        tick(x, 0, 3);
        tick(x, 1, 10);
        x.round();
        for (int h = 1; h <= 12; h++) {
            due("ledger 1 knows " + h, x.knows(1, h), h == 4);
            due("ledger 0 knows " + h, x.knows(0, h), h == 11);
        }
        x.round();
        due("ledger 1 knows the next", x.knows(1, 5), true);
        due("ledger 0 knows the next", x.knows(0, 12), true);
        due("ledger 1 knows the one before", x.knows(1, 4), true);
    }

    private static void bothLedgers() {
        TwinLedgers x = opened(16, false);
        tick(x, 0, 9);
        x.send(0, 0, who(0, 1), 0, 10);
        x.send(1, 0, who(0, 2), 0, 20);
        due("received by both", x.round(), 2);
        due("by ledger 1", x.balance(1, 1, 1), 10);
        due("by ledger 0", x.balance(0, 2, 1), 20);
        due("not acknowledged in the same round", x.packet(0, 0, 1) + x.packet(1, 0, 1), 0);
        due("acknowledged by both", x.round(), 2);
        due("of ledger 0", x.packet(0, 0, 1), 1);
        due("of ledger 1", x.packet(1, 0, 1), 1);
        due("nothing left", x.round(), 0);
    }

    private static void receives() {
        TwinLedgers x = openedAll(16);
        x.send(1, 2, who(0, 0), 0, 1);
        x.send(1, 1, who(0, 0), 0, 1);
        x.send(1, 0, who(0, 0), 0, 1);
        due("one at each end", x.round(), 3);
        for (int k = 1; k <= 3; k++) {
            due("voucher " + k + " came by end " + (k - 1), x.voucher(0, k), k - 1);
        }
        TwinLedgers y = opened(16, true);
        for (int s = 1; s <= 12; s++) {
            y.send(0, 0, who(0, s % 4), 0, s);
        }
        due("all of an ordered end", y.round(), 12);
        due("next", y.end(1, 0, 3), 13);
        sixthInRisingNumbers();
        TwinLedgers z = opened(16, false);
        z.send(0, 0, who(0, 1), 0, 1);
        z.close(1, 0);
        due("none at a CLOSED end", z.round(), 0);
        TwinLedgers w = opened(1, false);
        w.send(0, 0, who(0, 1), 0, 1);
        due("none at the limit: it is timed out", w.round(), 1);
        due("nothing came", w.voucher(1, 1), WRONG);
    }

    /** Of two packets that each would make a fifth voucher, the one with the lower number does. */
    private static void sixthInRisingNumbers() {
        TwinLedgers x = openedAll(16);
        for (int c = 0; c < 3; c++) {
            x.send(0, c, who(0, 0), 0, 100);
            x.send(1, c, who(0, 0), 0, 100);
        }
        due("six received", x.round(), 6);
        x.send(0, 0, who(0, 1), 2, 10);
        x.send(0, 1, who(0, 1), 3, 10);
        x.send(0, 1, who(0, 1), 1, 10);
        x.round();
        due("the first of end 0", x.voucher(1, 4), 4 * 2);
        due("the first of end 1", x.voucher(1, 5), 4 * 3 + 1);
        x.round();
        due("taken", x.packet(0, 1, 2), 1);
        due("not taken", x.packet(0, 1, 3), 2);
    }

    private static void acknowledges() {
        TwinLedgers x = opened(16, true);
        openChannel(x, 1, false);
        openChannel(x, 2, false);
        for (int s = 1; s <= 12; s++) {
            for (int c = 0; c < 3; c++) {
                x.send(0, c, who(c, 1), 0, 1);
            }
        }
        due("received", x.round(), 36);
        due("all acknowledged in one round", x.round(), 36);
        due("next", x.end(0, 0, 4), 13);
        due("nothing left", x.round(), 0);
        TwinLedgers y = opened(16, false);
        y.send(0, 0, who(0, 1), 0, 1);
        y.round();
        y.close(0, 0);
        due("none at a CLOSED end", y.round(), 0);
    }

    private static void timesOut() {
        TwinLedgers x = opened(2, true);
        x.send(0, 0, who(0, 1), 0, 10);
        due("received", x.round(), 1);
        x.send(0, 0, who(0, 1), 0, 20);
        x.send(0, 0, who(0, 1), 0, 30);
        x.send(1, 0, who(0, 1), 0, 40);
        x.tick(1);
        // In one round ledger 0 receives, has an answer and times out: the last closes the end.
        due("received, acknowledged, two timed out", x.round(), 4);
        due("received before the end is CLOSED", x.balance(0, 1, 1), 40);
        due("acknowledged before the end is CLOSED", x.packet(0, 0, 1), 1);
        due("timed out", x.packet(0, 0, 2), 3);
        due("timed out at a CLOSED end", x.packet(0, 0, 3), 3);
        due("CLOSED", x.end(0, 0, 0), CLOSED);
        due("the other one's stays OPEN", x.end(1, 0, 0), OPEN);
        TwinLedgers y = opened(16, false);
        y.send(0, 0, who(0, 1), 0, 10);
        y.close(1, 0);
        for (int h = 4; h < 19; h++) {
            due("not for close", y.round(), 0);
        }
        due("at the limit", y.round(), 1);
        due("timed out", y.packet(0, 0, 1), 3);
    }

    private static void counts() {
        due("a new object", new TwinLedgers(4).round(), 0);
        TwinLedgers x = openedAll(16);
        for (int s = 1; s <= 12; s++) {
            for (int c = 0; c < 3; c++) {
                due("send", x.send(0, c, who(c, s % 4), 0, 1), s);
                due("send", x.send(1, c, who(c, s % 4), 0, 1), s);
            }
        }
        due("all received, taken or not", x.round(), 72);
        due("all acknowledged, taken or not", x.round(), 72);
        due("nothing left", x.round(), 0);
        TwinLedgers y = opened(1, false);
        for (int s = 1; s <= 12; s++) {
            y.send(0, 0, who(0, 1), 0, 1);
        }
        due("all timed out", y.round(), 12);
        due("nothing left", y.round(), 0);
        TwinLedgers z = opened(16, false);
        z.send(0, 0, who(0, 1), 0, 1);
        z.send(0, 0, who(0, 1), 0, 1);
        z.receive(1, 0, 1, publish(z, 0), false);
        due("one received before, one left", z.round(), 2);
        due("the one left", z.round(), 1);
    }
}
