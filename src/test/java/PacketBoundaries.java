import java.util.function.Supplier;

/** Packets as they are received, settled, refunded, acknowledged and timed out. */
final class PacketBoundaries extends Bench {
    static void run() {
        chapter("Terms");
        sentence("To RECEIVE packet s at end c of the receiver's ledger: with the proof that the "
                + "sender's ledger has its print under 12288 + 64 c + s",
                PacketBoundaries::provedByItsPrint);
        sentence("(the relayer gives the packet; a FALSE one has an amount that is 1 more).",
                PacketBoundaries::falsePackets);
        sentence("At an ordered end s must be the next to be received, which is then s + 1;",
                PacketBoundaries::nextToBeReceived);
        sentence("at another one s must not have been received there.",
                PacketBoundaries::notReceivedThere);
        sentence("It is TAKEN unless the user it is for is 3,", PacketBoundaries::user3);
        sentence("or, if it goes back, the end's escrow has less of its base than the amount,",
                PacketBoundaries::escrowForWhatGoesBack);
        sentence("or else it would make a 6th voucher.", PacketBoundaries::sixthVoucher);
        sentence("If it is taken: what went back comes out of the escrow, as its base;",
                PacketBoundaries::outOfTheEscrow);
        sentence("otherwise it is a voucher for its kind, that came by c; the user it is for has it.",
                PacketBoundaries::asAVoucher);
        sentence("To SETTLE a packet: its print goes out of the store.", PacketBoundaries::settled);
        sentence("To REFUND it: the user it is from gets the amount back, out of the escrow unless "
                + "it went back.", PacketBoundaries::refunded);
        settlingSentences();
    }

    private static void settlingSentences() {
        sentence("ACKNOWLEDGE packet s at end c, with the proof that the other ledger has its answer "
                + "(the one that it has now) under 20480 + 64 c + s;", PacketBoundaries::answerOfNow);
        sentence("at an ordered end s must be the next to be acknowledged, which is then s + 1.",
                PacketBoundaries::nextToBeAcknowledged);
        sentence("It is settled, and refunded if the answer is 2.", PacketBoundaries::refundedByAnswer);
        sentence("TIME OUT packet s at end c by height h, h not below its limit, with the proof:",
                PacketBoundaries::timeOutByHeight);
        sentence("at an end that is not ordered, that 16384 + 64 c + s is not there;",
                PacketBoundaries::timeOutUnordered);
        sentence("at an ordered one, that 8192 + c has the number that it has now, and that is not "
                + "above s.", PacketBoundaries::timeOutOrdered);
        sentence("It is settled and refunded; an ordered end becomes CLOSED.",
                PacketBoundaries::timeOutCloses);
        sentence("TIME OUT FOR CLOSE: the same without the limit, but first with the proof that the "
                + "other one's end is CLOSED with this order.", PacketBoundaries::timeOutForClose);
    }

    private static void provedByItsPrint() {
        for (boolean ordered : ORDERS) {
            refused("by a state before it was sent", () -> sent(16, ordered, 1),
                    x -> x.receive(1, 0, 1, 3, false), PROOF);
            TwinLedgers x = sent(16, ordered, 1);
            due("by the first state that has it", x.receive(1, 0, 1, 4, false), 1);
        }
        TwinLedgers y = sent(2, false, 1);
        publish(y, 1);
        int h = publish(y, 1);
        due("settled by a timeout", y.timeout(0, 0, 1, h, false), 0);
        int g = publish(y, 0);
        due("LATE, and the print is gone", y.receive(1, 0, 1, g, false), LATE);
        TwinLedgers z = sent(16, false, 1);
        openChannel(z, 1, false);
        z.send(0, 1, who(0, 1), 0, 10);
        due("the print under its own end", z.receive(1, 1, 1, z.height(0), false), PROOF);
    }

    private static void falsePackets() {
        int[] amounts = {1, 999, 1000};
        for (int amount : amounts) {
            for (boolean ordered : ORDERS) {
                Supplier<TwinLedgers> scene = () -> {
                    TwinLedgers x = opened(16, ordered);
                    x.send(0, 0, who(0, 1), 0, amount);
                    publish(x, 0);
                    return x;
                };
                refused("a false one of " + amount, scene, x -> x.receive(1, 0, 1, 4, true), PROOF);
                TwinLedgers x = scene.get();
                x.receive(1, 0, 1, 4, true);
                due("the true one after it", x.receive(1, 0, 1, 4, false), 1);
                due("its amount", x.balance(1, 1, 1), amount);
                due("a false one after it", x.receive(1, 0, 1, 4, true), DONE);
            }
        }
        refused("a false one by no height", () -> sent(16, false, 1),
                x -> x.receive(1, 0, 1, 5, true), UNKNOWN);
    }

    private static void nextToBeReceived() {
        TwinLedgers x = sent(16, true, TWELVE);
        due("1 at first", x.end(1, 0, 3), 1);
        for (int s = 1; s <= 12; s++) {
            for (int other = 1; other <= 12; other++) {
                if (other != s) {
                    due(other + " when " + s + " is next", x.receive(1, 0, other, 4, false), DONE);
                }
            }
            due("the next one, " + s, x.receive(1, 0, s, 4, false), 1);
            due("next", x.end(1, 0, 3), s + 1);
        }
        due("the last one again", x.receive(1, 0, 12, 4, false), DONE);
        due("there is no 13th", x.receive(1, 0, 13, 4, false), WRONG);
        due("the sender's end stays", x.end(0, 0, 3), 1);
        refused("one too far", () -> sent(16, true, 1, 1, 1), y -> y.receive(1, 0, 2, 4, false), DONE);
        refused("DONE before the proof", () -> sent(16, true, 1, 1, 1),
                y -> y.receive(1, 0, 2, 99, true), DONE);
        TwinLedgers y = opened(16, true);
        y.send(0, 0, who(0, 3), 0, 1);
        y.round();
        due("one that is not taken counts", y.end(1, 0, 3), 2);
    }

    private static void notReceivedThere() {
        TwinLedgers x = sent(16, false, TWELVE);
        for (int s = 12; s >= 1; s--) {
            due("from the last to the first, " + s, x.receive(1, 0, s, 4, false), 1);
            due("again", x.receive(1, 0, s, 4, false), DONE);
        }
        due("no order, no next", x.end(1, 0, 3), 1);
        TwinLedgers y = opened(16, false);
        openChannel(y, 1, false);
        y.send(0, 0, who(0, 3), 0, 1);
        y.send(0, 1, who(0, 1), 0, 1);
        int h = publish(y, 0);
        due("not taken", y.receive(1, 0, 1, h, false), 2);
        due("one that was not taken was received", y.receive(1, 0, 1, h, false), DONE);
        due("the same number at another end", y.receive(1, 1, 1, h, false), 1);
        refused("DONE before the proof", () -> {
            TwinLedgers z = sent(16, false, 1);
            z.receive(1, 0, 1, 4, false);
            return z;
        }, z -> z.receive(1, 0, 1, 99, false), DONE);
    }

    private static void user3() {
        for (boolean ordered : ORDERS) {
            TwinLedgers x = opened(16, ordered);
            for (int to = 0; to < 4; to++) {
                x.send(0, 0, who(3, to), 0, 10);
            }
            int h = publish(x, 0);
            for (int to = 0; to < 4; to++) {
                due("for user " + to, x.receive(1, 0, to + 1, h, false), to == 3 ? 2 : 1);
                due("user " + to, x.balance(1, to, 1), to == 3 ? 0 : 10);
            }
        }
        TwinLedgers y = opened(16, false);
        y.send(0, 0, who(0, 0), 0, 10);
        y.round();
        y.send(1, 0, who(0, 3), 1, 10);
        int h = publish(y, 1);
        due("going back to user 3", y.receive(0, 0, 1, h, false), 2);
        due("the escrow keeps it", y.escrow(0, 0, 0), 10);
        due("user 3 has what it had", y.balance(0, 3, 0), 1000);
    }

    /**
     * An escrow never has less than the vouchers that came out of it, so that this refusal can't be
     * met by calls; what can be is an escrow that has just the amount.
     */
    private static void escrowForWhatGoesBack() {
        TwinLedgers x = opened(16, false);
        x.send(0, 0, who(0, 0), 0, 1000);
        x.round();
        x.send(1, 0, who(0, 1), 1, 1);
        x.send(1, 0, who(0, 1), 1, 999);
        due("received and acknowledged", x.round(), 3);
        due("all of it went back", x.balance(0, 1, 0), 2000);
        due("nothing in the escrow", x.escrow(0, 0, 0), 0);
        due("nothing more to go back", x.send(1, 0, who(0, 1), 1, 1), POOR);
        TwinLedgers y = opened(2, false);
        int[] whos = {who(0, 0), who(0, 3), who(1, 0), who(2, 0)};
        for (int turn = 0; turn < 4; turn++) {
            y.send(0, 0, whos[turn], 0, 50 + turn);
            if (turn == 2) {
                y.tick(1);
            }
            y.round();
            y.send(1, 0, who(0, turn), 1, 20);
            y.round();
            y.round();
            y.round();
            int held = y.balance(1, 0, 1) + y.balance(1, 1, 1) + y.balance(1, 2, 1);
            due("the escrow has what the vouchers are for", y.escrow(0, 0, 0), held);
        }
    }

    private static void sixthVoucher() {
        TwinLedgers x = withFiveVouchers();
        x.send(0, 2, who(0, 1), 1, 40);
        x.send(0, 2, who(0, 2), 0, 7);
        x.send(0, 1, who(0, 2), 2, 5);
        x.send(0, 0, who(0, 2), 2, 6);
        int h = publish(x, 0);
        due("a 6th", x.receive(1, 2, 2, h, false), 2);
        due("no voucher 6", x.voucher(1, 6), WRONG);
        due("voucher 5 is as it was", x.voucher(1, 5), 4 * 3 + 1);
        due("nobody has of it", x.balance(1, 1, 6), 0);
        due("one that is there", x.receive(1, 2, 3, h, false), 1);
        due("more of it", x.balance(1, 2, 3), 7);
        due("one that goes back", x.receive(1, 1, 3, h, false), 1);
        due("it is the base", x.balance(1, 2, 0), 1005);
        due("the 4th", x.receive(1, 0, 3, h, false), 1);
        due("more of the 4th", x.balance(1, 2, 4), 6);
        int g = publish(x, 1);
        due("acknowledged as not taken", x.acknowledge(0, 2, 2, g), 2);
        due("refunded", x.balance(0, 0, 1), 100);
    }

    private static void outOfTheEscrow() {
        TwinLedgers x = withFiveVouchers();
        x.send(1, 0, who(0, 2), 1, 30);
        x.send(1, 0, who(1, 2), 4, 15);
        int h = publish(x, 1);
        due("kind 1 goes back", x.receive(0, 0, 2, h, false), 1);
        due("as kind 0", x.balance(0, 2, 0), 1030);
        due("out of the escrow", x.escrow(0, 0, 0), 70);
        due("of this end alone", x.escrow(0, 1, 0), 100);
        due("kind 4 goes back", x.receive(0, 0, 3, h, false), 1);
        due("as kind 2", x.balance(0, 2, 2), 15);
        due("out of the escrow of kind 2", x.escrow(0, 0, 2), 25);
        due("not as a voucher", x.voucher(0, 4), WRONG);
    }

    private static void asAVoucher() {
        TwinLedgers x = withFiveVouchers();
        x.send(1, 1, who(0, 2), 1, 30);
        int h = publish(x, 1);
        due("kind 1 by another channel", x.receive(0, 1, 2, h, false), 1);
        due("a voucher for kind 1 by channel 1", x.voucher(0, 4), 4 * 1 + 1);
        due("the user it is for", x.balance(0, 2, 4), 30);
        due("not the user it is from", x.balance(0, 0, 4), 0);
        due("no escrow was touched", x.escrow(0, 1, 0), 100);
    }

    private static void settled() {
        TwinLedgers x = opened(2, false);
        x.send(0, 0, who(0, 1), 0, 1);
        x.send(0, 0, who(0, 1), 0, 2);
        int print = print(0, 2, who(0, 1), 5, 0);
        int h = publish(x, 0);
        x.receive(1, 0, 1, h, false);
        publish(x, 1);
        int g = publish(x, 1);
        x.acknowledge(0, 0, 1, g);
        dueStore("acknowledged", x, 0, 4096, 6, 12290, print);
        due("not the other one", x.packet(0, 0, 2), 0);
        x.timeout(0, 0, 2, g, false);
        dueStore("timed out", x, 0, 4096, 6);
        due("the older state has it still", x.root(0, h),
                rootOf(4096, 6, 12289, print(0, 1, who(0, 1), 5, 0), 12290, print));
    }

    private static void refunded() {
        TwinLedgers x = opened(16, false);
        x.send(0, 0, who(2, 3), 0, 1000);
        x.round();
        due("while it is not settled", x.balance(0, 2, 0), 0);
        x.round();
        due("the user it is from", x.balance(0, 2, 0), 1000);
        due("not the user it is for", x.balance(0, 3, 0), 1000);
        due("out of the escrow", x.escrow(0, 0, 0), 0);
        x.send(0, 0, who(2, 1), 0, 100);
        x.round();
        x.round();
        x.send(1, 0, who(1, 3), 1, 60);
        due("sent back", x.balance(1, 1, 1), 40);
        x.round();
        x.round();
        due("what went back is a voucher again", x.balance(1, 1, 1), 100);
        due("and no escrow has it", x.escrow(1, 0, 1), 0);
        due("the base's escrow is full", x.escrow(0, 0, 0), 100);
    }

    private static void answerOfNow() {
        for (boolean ordered : ORDERS) {
            Supplier<TwinLedgers> received = () -> {
                TwinLedgers x = sent(16, ordered, 1, 1);
                x.receive(1, 0, 1, 4, false);
                return x;
            };
            refused("no block has the answer yet", received, x -> x.acknowledge(0, 0, 1, 3), PROOF);
            TwinLedgers x = received.get();
            int h = publish(x, 1);
            due("by the first state that has it", x.acknowledge(0, 0, 1, h), 1);
            due("another one's answer is none", x.acknowledge(0, 0, 2, h), PROOF);
        }
        TwinLedgers y = opened(16, false);
        openChannel(y, 1, false);
        y.send(0, 0, who(0, 1), 0, 1);
        y.send(0, 1, who(0, 1), 0, 1);
        int h = publish(y, 0);
        y.receive(1, 1, 1, h, false);
        int g = publish(y, 1);
        due("the answer at another end is none", y.acknowledge(0, 0, 1, g), PROOF);
        due("at its own end", y.acknowledge(0, 1, 1, g), 1);
    }

    private static void nextToBeAcknowledged() {
        TwinLedgers x = sent(16, true, TWELVE);
        for (int s = 1; s <= 12; s++) {
            x.receive(1, 0, s, 4, false);
        }
        int h = publish(x, 1);
        for (int s = 1; s <= 12; s++) {
            due("next", x.end(0, 0, 4), s);
            for (int other = 1; other <= 12; other++) {
                if (other != s) {
                    due(other + " when " + s + " is next", x.acknowledge(0, 0, other, h), DONE);
                }
            }
            due("the next one, " + s, x.acknowledge(0, 0, s, h), 1);
        }
        due("after the last one", x.end(0, 0, 4), 13);
        due("the receiver's end stays", x.end(1, 0, 4), 1);
        TwinLedgers y = sent(16, false, TWELVE);
        for (int s = 1; s <= 12; s++) {
            y.receive(1, 0, s, 4, false);
        }
        int g = publish(y, 1);
        for (int s = 12; s >= 1; s--) {
            due("without order, " + s, y.acknowledge(0, 0, s, g), 1);
        }
        due("no order, no next", y.end(0, 0, 4), 1);
    }

    private static void refundedByAnswer() {
        for (boolean ordered : ORDERS) {
            TwinLedgers x = opened(16, ordered);
            x.send(0, 0, who(0, 1), 0, 300);
            x.send(0, 0, who(1, 3), 0, 400);
            int h = publish(x, 0);
            x.receive(1, 0, 1, h, false);
            x.receive(1, 0, 2, h, false);
            int g = publish(x, 1);
            due("answer 1", x.acknowledge(0, 0, 1, g), 1);
            due("no refund", x.balance(0, 0, 0), 700);
            due("the escrow", x.escrow(0, 0, 0), 700);
            due("answer 2", x.acknowledge(0, 0, 2, g), 2);
            due("a refund", x.balance(0, 1, 0), 1000);
            due("out of the escrow", x.escrow(0, 0, 0), 300);
            due("settled", x.packet(0, 0, 1), 1);
            due("settled", x.packet(0, 0, 2), 2);
            due("the end stays OPEN", x.end(0, 0, 0), OPEN);
        }
    }

    private static void timeOutByHeight() {
        for (boolean ordered : ORDERS) {
            int[] patience = {1, 2, 16};
            for (int p : patience) {
                int limit = 3 + p;
                Supplier<TwinLedgers> scene = () -> {
                    TwinLedgers x = sent(p, ordered, 1);
                    while (x.height(1) <= limit) {
                        publish(x, 1);
                    }
                    return x;
                };
                refused("one below the limit", scene, x -> x.timeout(0, 0, 1, limit - 1, false), LATE);
                due("at the limit", scene.get().timeout(0, 0, 1, limit, false), 0);
                due("above the limit", scene.get().timeout(0, 0, 1, limit + 1, false), 0);
            }
        }
    }

    private static void timeOutUnordered() {
        TwinLedgers x = sent(2, false, 1, 1, 1);
        x.receive(1, 0, 2, 4, false);
        publish(x, 1);
        int h = publish(x, 1);
        due("one that was received", x.timeout(0, 0, 2, h, false), PROOF);
        due("one after it", x.timeout(0, 0, 3, h, false), 0);
        due("one before it", x.timeout(0, 0, 1, h, false), 0);
        due("the received one, by its answer", x.acknowledge(0, 0, 2, h), 1);
        refused("one that was received and not taken", () -> {
            TwinLedgers y = opened(2, false);
            y.send(0, 0, who(0, 3), 0, 1);
            y.receive(1, 0, 1, publish(y, 0), false);
            publish(y, 1);
            publish(y, 1);
            return y;
        }, y -> y.timeout(0, 0, 1, 5, false), PROOF);
    }

    private static void timeOutOrdered() {
        Supplier<TwinLedgers> scene = () -> {
            TwinLedgers x = sent(2, true, 1, 1, 1, 1);
            x.receive(1, 0, 1, 4, false);
            x.receive(1, 0, 2, 4, false);
            publish(x, 1);
            publish(x, 1);
            return x;
        };
        refused("the number is above 1", scene, x -> x.timeout(0, 0, 1, 5, false), PROOF);
        refused("the number is just above 2", scene, x -> x.timeout(0, 0, 2, 5, false), PROOF);
        due("the number is 3", scene.get().timeout(0, 0, 3, 5, false), 0);
        due("the number is below 4", scene.get().timeout(0, 0, 4, 5, false), 0);
        refused("the number is above 1, before UNKNOWN", scene, x -> x.timeout(0, 0, 1, 6, false), PROOF);
        refused("the number is 3, but unknown", scene, x -> x.timeout(0, 0, 3, 6, false), UNKNOWN);
    }

    private static void timeOutCloses() {
        for (boolean ordered : ORDERS) {
            TwinLedgers x = sent(2, ordered, 1, 1);
            publish(x, 1);
            int h = publish(x, 1);
            due("timeout", x.timeout(0, 0, 2, h, false), 0);
            due("the end", x.end(0, 0, 0), ordered ? CLOSED : OPEN);
            due("its order", x.end(0, 0, 1), ordered ? 1 : 0);
            due("the other one's end", x.end(1, 0, 0), OPEN);
            due("settled", x.packet(0, 0, 2), 3);
            due("refunded", x.balance(0, 0, 0), 990);
            due("out of the escrow", x.escrow(0, 0, 0), 10);
            due("the other packet at a closed end, too", x.timeout(0, 0, 1, h, false), 0);
            due("the end", x.end(0, 0, 0), ordered ? CLOSED : OPEN);
            due("refunded", x.balance(0, 0, 0), 1000);
        }
    }

    private static void timeOutForClose() {
        for (boolean ordered : ORDERS) {
            Supplier<TwinLedgers> scene = () -> {
                TwinLedgers x = sent(16, ordered, 1, 1);
                x.receive(1, 0, 1, 4, false);
                x.close(1, 0);
                publish(x, 1);
                return x;
            };
            refused("with the limit it is early", scene, x -> x.timeout(0, 0, 2, 4, false), LATE);
            refused("it was OPEN then", scene, x -> x.timeout(0, 0, 2, 3, true), PROOF);
            refused("one that was received", scene, x -> x.timeout(0, 0, 1, 4, true), PROOF);
            refused("the proof of the end comes first", scene, x -> x.timeout(0, 0, 1, 9, true), UNKNOWN);
            TwinLedgers x = scene.get();
            due("for close", x.timeout(0, 0, 2, 4, true), 0);
            due("settled", x.packet(0, 0, 2), 3);
            due("refunded", x.balance(0, 0, 0), 990);
            due("the end", x.end(0, 0, 0), ordered ? CLOSED : OPEN);
            refused("the other one's end is OPEN, the limit is passed", () -> {
                TwinLedgers y = sent(1, ordered, 1);
                publish(y, 1);
                publish(y, 1);
                return y;
            }, y -> y.timeout(0, 0, 1, 5, true), PROOF);
        }
    }
}
