import java.util.function.Supplier;

/** Promises 8 to 11: packets sent, received, acknowledged and timed out. */
final class TransferBoundaries extends Bench {
    static void run() {
        sendSentences();
        receiveSentences();
        acknowledgeSentences();
        timeoutSentences();
    }

    private static void sendSentences() {
        chapter("Promise 8: send");
        sentence("`int send(int l, int c, int who, int kind, int amount)`: User from (who / 4) of "
                + "ledger l sends", TransferBoundaries::sendFrom);
        sentence("an amount (1 .. 1000)", TransferBoundaries::sendAmounts);
        sentence("of a kind by end c", TransferBoundaries::sendKinds);
        sentence("to user who % 4 (who is 0 .. 15).", TransferBoundaries::sendTo);
        sentence("Answers the packet's number;", TransferBoundaries::sendNumbers);
        sentence("WRONG;", TransferBoundaries::sendWrong);
        sentence("STATE when the end is not OPEN;", TransferBoundaries::sendState);
        sentence("POOR.", TransferBoundaries::sendPoor);
    }

    private static void sendFrom() {
        for (int who = 0; who < 16; who++) {
            TwinLedgers x = opened(4, false);
            due("send", x.send(1, 0, who, 0, 1), 1);
            for (int u = 0; u < 4; u++) {
                due("user " + u, x.balance(1, u, 0), u == who / 4 ? 999 : 1000);
                due("user " + u + " of the other one", x.balance(0, u, 0), 1000);
            }
        }
    }

    private static void sendAmounts() {
        int[] wrong = {0, -1, 1001, 1002, Integer.MAX_VALUE, Integer.MIN_VALUE};
        for (int amount : wrong) {
            refused("send " + amount, () -> opened(4, false), x -> x.send(0, 0, 0, 0, amount), WRONG);
        }
        int[] right = {1, 2, 999, 1000};
        for (int amount : right) {
            TwinLedgers x = opened(4, false);
            due("send " + amount, x.send(0, 0, 0, 0, amount), 1);
            due("escrow", x.escrow(0, 0, 0), amount);
        }
        TwinLedgers y = opened(16, false);
        y.send(0, 0, who(0, 0), 0, 1000);
        y.round();
        y.send(1, 0, who(0, 0), 1, 1000);
        y.send(0, 0, who(1, 0), 0, 1000);
        y.round();
        due("one has more than 1000", y.balance(0, 0, 0), 1000);
        due("but may send no more at once", y.send(0, 0, who(0, 0), 0, 1001), WRONG);
    }

    private static void sendKinds() {
        int[] wrong = {-1, 6, 7, Integer.MAX_VALUE, Integer.MIN_VALUE};
        for (int kind : wrong) {
            refused("kind " + kind, Bench::withFiveVouchers, x -> x.send(1, 0, 0, kind, 1), WRONG);
        }
        refused("kind 4 of one who has three vouchers", Bench::withFiveVouchers,
                x -> x.send(0, 0, 0, 4, 1), WRONG);
        TwinLedgers x = withFiveVouchers();
        for (int kind = 0; kind <= 5; kind++) {
            due("kind " + kind, x.send(1, 2, who(kind < 4 ? 0 : 1, 0), kind, 1), 2 + kind);
        }
        due("kind 1 of a new ledger", opened(4, false).send(0, 0, 0, 1, 1), WRONG);
    }

    private static void sendTo() {
        int[] wrong = {-1, -4, 16, 17, Integer.MAX_VALUE, Integer.MIN_VALUE};
        for (int who : wrong) {
            refused("who " + who, () -> opened(4, false), x -> x.send(0, 0, who, 0, 1), WRONG);
        }
        for (int who = 0; who < 16; who++) {
            TwinLedgers x = opened(16, false);
            x.send(0, 0, who, 0, 5);
            x.round();
            for (int u = 0; u < 4; u++) {
                due("user " + u, x.balance(1, u, 1), u == who % 4 && u < 3 ? 5 : 0);
            }
        }
    }

    private static void sendNumbers() {
        TwinLedgers x = openedAll(4);
        for (int s = 1; s <= 12; s++) {
            due("by end 2", x.send(1, 2, 0, 0, 1), s);
            due("sent", x.end(1, 2, 2), s);
        }
        due("by end 1", x.send(1, 1, 0, 0, 1), 1);
        due("by the other one's end 2", x.send(0, 2, 0, 0, 1), 1);
        due("refused ones get no number", x.send(0, 2, 0, 0, 1001), WRONG);
        due("the next", x.send(0, 2, 0, 0, 1), 2);
    }

    private static void sendWrong() {
        Supplier<TwinLedgers> scene = () -> opened(4, false);
        refused("no ledger", scene, x -> x.send(2, 0, 0, 0, 1), WRONG);
        refused("no ledger", scene, x -> x.send(-1, 0, 0, 0, 1), WRONG);
        refused("no end", scene, x -> x.send(0, 3, 0, 0, 1), WRONG);
        refused("no end", scene, x -> x.send(0, -1, 0, 0, 1), WRONG);
        refused("WRONG before STATE, amount", scene, x -> x.send(0, 1, 0, 0, 0), WRONG);
        refused("WRONG before STATE, who", scene, x -> x.send(0, 1, 16, 0, 1), WRONG);
        refused("WRONG before STATE, kind", scene, x -> x.send(0, 1, 0, 1, 1), WRONG);
        refused("WRONG before POOR", TransferBoundaries::twelveSent, x -> x.send(0, 0, 0, 0, 1001), WRONG);
    }

    private static TwinLedgers twelveSent() {
        TwinLedgers x = opened(4, false);
        for (int s = 1; s <= 12; s++) {
            x.send(0, 0, 0, 0, 50);
        }
        return x;
    }

    private static void sendState() {
        for (int state = NONE; state <= CLOSED; state++) {
            int at = state;
            if (state == OPEN) {
                due("OPEN", HandshakeBoundaries.inState(OPEN, true).send(1, 0, 0, 0, 1), 1);
            } else {
                refused("state " + state, () -> HandshakeBoundaries.inState(at, true),
                        x -> x.send(1, 0, 0, 0, 1), STATE);
            }
        }
        refused("STATE before POOR", () -> {
            TwinLedgers x = twelveSent();
            x.close(0, 0);
            return x;
        }, x -> x.send(0, 0, 0, 0, 1000), STATE);
    }

    private static void sendPoor() {
        refused("twelve were sent", TransferBoundaries::twelveSent, x -> x.send(0, 0, 4, 0, 1), POOR);
        Supplier<TwinLedgers> scene = () -> {
            TwinLedgers x = opened(4, false);
            x.send(0, 0, who(1, 0), 0, 1);
            return x;
        };
        refused("one has 999", scene, x -> x.send(0, 0, who(1, 0), 0, 1000), POOR);
        due("999", scene.get().send(0, 0, who(1, 0), 0, 999), 2);
        refused("a voucher that another user has", Bench::withFiveVouchers,
                x -> x.send(1, 0, who(0, 0), 4, 1), POOR);
    }

    private static void receiveSentences() {
        chapter("Promise 9: receive");
        sentence("`int receive(int l, int c, int s, int h, boolean wrong)`: RECEIVE at end c of ledger "
                + "l of packet s of the other one, with the proof at height h, the packet a false one "
                + "or not.", TransferBoundaries::receiveEverywhere);
        sentence("Answers the answer (1 or 2);", TransferBoundaries::receiveAnswers);
        sentence("WRONG when the other one sent no packet s by end c;", TransferBoundaries::receiveWrong);
        sentence("STATE when the end is not OPEN;", TransferBoundaries::receiveState);
        sentence("LATE when the height of l is not below the packet's limit;",
                TransferBoundaries::receiveLate);
        sentence("DONE;", TransferBoundaries::receiveDone);
    }

    private static void receiveEverywhere() {
        TwinLedgers x = openedAll(16);
        for (int l = 0; l < 2; l++) {
            for (int c = 0; c < 3; c++) {
                x.send(1 - l, c, who(0, 1), 0, 10 + c);
            }
        }
        publish(x, 0);
        publish(x, 1);
        for (int l = 0; l < 2; l++) {
            for (int c = 0; c < 3; c++) {
                due("a false one", x.receive(l, c, 1, 10, true), PROOF);
                due("nothing came", x.balance(l, 1, c + 1), 0);
                due("a true one", x.receive(l, c, 1, 10, false), 1);
                due("it came", x.balance(l, 1, c + 1), 10 + c);
            }
        }
    }

    private static void receiveAnswers() {
        for (boolean ordered : ORDERS) {
            TwinLedgers x = sent(16, ordered, 1, 3);
            due("taken", x.receive(1, 0, 1, 4, false), 1);
            due("not taken", x.receive(1, 0, 2, 4, false), 2);
        }
    }

    private static void receiveWrong() {
        Supplier<TwinLedgers> scene = () -> sent(16, false, 1, 3);
        int[] none = {0, 3, 12, 13, -1, Integer.MAX_VALUE, Integer.MIN_VALUE};
        for (int s : none) {
            refused("packet " + s, scene, x -> x.receive(1, 0, s, 4, false), WRONG);
        }
        refused("by another end", scene, x -> x.receive(1, 1, 1, 4, false), WRONG);
        refused("at the sender", scene, x -> x.receive(0, 0, 1, 3, false), WRONG);
        refused("no ledger", scene, x -> x.receive(2, 0, 1, 4, false), WRONG);
        refused("no ledger", scene, x -> x.receive(-1, 0, 1, 4, false), WRONG);
        refused("no end", scene, x -> x.receive(1, 3, 1, 4, false), WRONG);
        refused("no end", scene, x -> x.receive(1, -1, 1, 4, false), WRONG);
        refused("WRONG before STATE", () -> {
            TwinLedgers x = sent(16, false, 1, 3);
            x.close(1, 0);
            return x;
        }, x -> x.receive(1, 0, 3, 4, false), WRONG);
    }

    private static void receiveState() {
        for (boolean ordered : ORDERS) {
            refused("TRY", () -> ConstantBoundaries.sentToOneThatTries(ordered),
                    x -> x.receive(1, 0, 1, 2, false), STATE);
            Supplier<TwinLedgers> closed = () -> {
                TwinLedgers x = sent(1, ordered, 1, 3);
                x.close(1, 0);
                x.tick(1);
                return x;
            };
            refused("CLOSED, before LATE", closed, x -> x.receive(1, 0, 1, 4, false), STATE);
            refused("CLOSED, before UNKNOWN", closed, x -> x.receive(1, 0, 1, 99, true), STATE);
            TwinLedgers y = sent(16, ordered, 1, 3);
            y.close(0, 0);
            due("the sender's end is CLOSED", y.receive(1, 0, 1, 4, false), 1);
        }
    }

    private static void receiveLate() {
        int[] patience = {1, 4, 16};
        for (boolean ordered : ORDERS) {
            for (int p : patience) {
                Supplier<TwinLedgers> scene = () -> {
                    TwinLedgers x = sent(p, ordered, 1, 3);
                    while (x.height(1) < 3 + p) {
                        x.tick(1);
                    }
                    return x;
                };
                refused("at the limit", scene, x -> x.receive(1, 0, 1, 4, false), LATE);
                refused("LATE before DONE or UNKNOWN", scene, x -> x.receive(1, 0, 2, 99, true), LATE);
                TwinLedgers x = sent(p, ordered, 1, 3);
                tick(x, 1, p - 1);
                due("one below the limit", x.height(1), 3 + p - 1);
                due("in time", x.receive(1, 0, 1, 4, false), 1);
                tick(x, 1, 2);
                due("above the limit, received before", x.receive(1, 0, 1, 4, false), LATE);
            }
        }
        TwinLedgers y = sent(1, false, 1, 3);
        tick(y, 0, 5);
        due("the sender's height counts not", y.receive(1, 0, 1, 4, false), 1);
    }

    private static void receiveDone() {
        for (boolean ordered : ORDERS) {
            Supplier<TwinLedgers> scene = () -> {
                TwinLedgers x = sent(16, ordered, 1, 3);
                x.receive(1, 0, 1, 4, false);
                x.receive(1, 0, 2, 4, false);
                return x;
            };
            refused("taken", scene, x -> x.receive(1, 0, 1, 4, false), DONE);
            refused("not taken", scene, x -> x.receive(1, 0, 2, 4, false), DONE);
            refused("before UNKNOWN", scene, x -> x.receive(1, 0, 1, 99, false), DONE);
            refused("before PROOF", scene, x -> x.receive(1, 0, 1, 4, true), DONE);
        }
        refused("not the next one", () -> sent(16, true, 1, 3), x -> x.receive(1, 0, 2, 4, false), DONE);
        due("no order, no next one", sent(16, false, 1, 3).receive(1, 0, 2, 4, false), 2);
    }

    private static void acknowledgeSentences() {
        chapter("Promise 10: acknowledge");
        sentence("`int acknowledge(int l, int c, int s, int h)`: ACKNOWLEDGE packet s at end c of "
                + "ledger l, with the proof at height h.", TransferBoundaries::acknowledgeEverywhere);
        sentence("Answers the answer;", TransferBoundaries::acknowledgeAnswers);
        sentence("WRONG when there is no such packet;", TransferBoundaries::acknowledgeWrong);
        sentence("STATE when the end is not OPEN;", TransferBoundaries::acknowledgeState);
        sentence("DONE when it is settled or not the next one;", TransferBoundaries::acknowledgeDone);
        sentence("PROOF when the other ledger has no answer to it now (before all else about the "
                + "proof);", TransferBoundaries::acknowledgeNoAnswer);
    }

    private static TwinLedgers received(boolean ordered) {
        TwinLedgers x = sent(16, ordered, 1, 3);
        x.receive(1, 0, 1, 4, false);
        x.receive(1, 0, 2, 4, false);
        publish(x, 1);
        return x;
    }

    private static void acknowledgeEverywhere() {
        TwinLedgers x = openedAll(16);
        for (int i = 0; i < 6; i++) {
            x.send(i / 3, i % 3, who(0, 1), 0, 10);
        }
        due("received", x.round(), 6);
        publish(x, 0);
        publish(x, 1);
        for (int i = 0; i < 6; i++) {
            due("by a state before the answer", x.acknowledge(i / 3, i % 3, 1, 10), PROOF);
            due("by the next one", x.acknowledge(i / 3, i % 3, 1, 11), 1);
            due("settled", x.packet(i / 3, i % 3, 1), 1);
        }
    }

    private static void acknowledgeAnswers() {
        for (boolean ordered : ORDERS) {
            TwinLedgers x = received(ordered);
            due("taken", x.acknowledge(0, 0, 1, 4), 1);
            due("not taken", x.acknowledge(0, 0, 2, 4), 2);
            due("the balance of the one", x.balance(0, 0, 0), 990);
        }
    }

    private static void acknowledgeWrong() {
        Supplier<TwinLedgers> scene = () -> received(false);
        int[] none = {0, 3, 12, 13, -1, Integer.MAX_VALUE, Integer.MIN_VALUE};
        for (int s : none) {
            refused("packet " + s, scene, x -> x.acknowledge(0, 0, s, 4), WRONG);
        }
        refused("at another end", scene, x -> x.acknowledge(0, 1, 1, 4), WRONG);
        refused("at the receiver", scene, x -> x.acknowledge(1, 0, 1, 4), WRONG);
        refused("no ledger", scene, x -> x.acknowledge(2, 0, 1, 4), WRONG);
        refused("no ledger", scene, x -> x.acknowledge(-1, 0, 1, 4), WRONG);
        refused("no end", scene, x -> x.acknowledge(0, 3, 1, 4), WRONG);
        refused("no end", scene, x -> x.acknowledge(0, -1, 1, 4), WRONG);
        refused("WRONG before STATE", () -> {
            TwinLedgers x = received(false);
            x.close(0, 0);
            return x;
        }, x -> x.acknowledge(0, 0, 3, 4), WRONG);
    }

    private static void acknowledgeState() {
        for (boolean ordered : ORDERS) {
            Supplier<TwinLedgers> closed = () -> {
                TwinLedgers x = received(ordered);
                x.acknowledge(0, 0, 1, 4);
                x.close(0, 0);
                return x;
            };
            refused("CLOSED", closed, x -> x.acknowledge(0, 0, 2, 4), STATE);
            refused("STATE before DONE", closed, x -> x.acknowledge(0, 0, 1, 4), STATE);
            refused("STATE before UNKNOWN", closed, x -> x.acknowledge(0, 0, 2, 99), STATE);
            refused("STATE before no answer", () -> {
                TwinLedgers x = sent(16, ordered, 1, 3);
                x.close(0, 0);
                return x;
            }, x -> x.acknowledge(0, 0, 1, 3), STATE);
            TwinLedgers y = received(ordered);
            y.close(1, 0);
            due("the receiver's end is CLOSED", y.acknowledge(0, 0, 1, 4), 1);
        }
    }

    private static void acknowledgeDone() {
        for (boolean ordered : ORDERS) {
            Supplier<TwinLedgers> settled = () -> {
                TwinLedgers x = received(ordered);
                x.acknowledge(0, 0, 1, 4);
                x.acknowledge(0, 0, 2, 4);
                return x;
            };
            refused("taken", settled, x -> x.acknowledge(0, 0, 1, 4), DONE);
            refused("not taken", settled, x -> x.acknowledge(0, 0, 2, 4), DONE);
            refused("DONE before UNKNOWN", settled, x -> x.acknowledge(0, 0, 1, 99), DONE);
        }
        refused("not the next one", () -> received(true), x -> x.acknowledge(0, 0, 2, 4), DONE);
        refused("not the next one, before no answer", () -> sent(16, true, 1, 3),
                x -> x.acknowledge(0, 0, 2, 3), DONE);
        due("no order, no next one", received(false).acknowledge(0, 0, 2, 4), 2);
        refused("timed out", () -> {
            TwinLedgers x = sent(1, false, 1, 3);
            publish(x, 1);
            x.timeout(0, 0, 1, 4, false);
            return x;
        }, x -> x.acknowledge(0, 0, 1, 4), DONE);
    }

    private static void acknowledgeNoAnswer() {
        for (boolean ordered : ORDERS) {
            int[] heights = {3, 4, 99, 0, -1};
            for (int h : heights) {
                refused("not received, at height " + h, () -> sent(16, ordered, 1, 3),
                        x -> x.acknowledge(0, 0, 1, h), PROOF);
            }
            refused("not received, at a height that is gone", () -> {
                TwinLedgers x = sent(16, ordered, 1, 3);
                tick(x, 1, 8);
                return x;
            }, x -> x.acknowledge(0, 0, 1, 3), PROOF);
            TwinLedgers x = sent(16, ordered, 1, 3);
            x.receive(1, 0, 1, 4, false);
            due("received, at no height", x.acknowledge(0, 0, 1, 99), UNKNOWN);
        }
    }

    private static void timeoutSentences() {
        chapter("Promise 11: timeout");
        sentence("`int timeout(int l, int c, int s, int h, boolean forClose)`: TIME OUT, or TIME OUT "
                + "FOR CLOSE, of packet s at end c of ledger l.", TransferBoundaries::timeoutEverywhere);
        sentence("Answers 0; WRONG when there is no such packet;", TransferBoundaries::timeoutWrong);
        sentence("DONE when it is settled;", TransferBoundaries::timeoutDone);
        sentence("LATE when h is below the limit (not for close);", TransferBoundaries::timeoutLate);
        sentence("(for close the one of the end first);", TransferBoundaries::timeoutEndFirst);
        sentence("at an ordered end PROOF, too, when the number is above s (before the proof of it).",
                TransferBoundaries::timeoutNumberAbove);
    }

    private static void timeoutEverywhere() {
        TwinLedgers x = openedAll(1);
        for (int i = 0; i < 6; i++) {
            x.send(i / 3, i % 3, who(0, 1), 0, 10);
        }
        publish(x, 0);
        publish(x, 1);
        for (int i = 0; i < 6; i++) {
            due("for close", x.timeout(i / 3, i % 3, 1, 10, true), PROOF);
            due("by the limit", x.timeout(i / 3, i % 3, 1, 10, false), 0);
            due("timed out", x.packet(i / 3, i % 3, 1), 3);
        }
        due("refunded", x.balance(0, 0, 0) + x.balance(1, 0, 0), 2000);
        TwinLedgers y = sent(1, false, 1, 3);
        y.close(0, 0);
        due("at a CLOSED end", y.timeout(0, 0, 1, publish(y, 1), false), 0);
        due("it stays CLOSED", y.end(0, 0, 0), CLOSED);
    }

    private static void timeoutWrong() {
        int[] none = {0, 3, 12, 13, -1, Integer.MAX_VALUE, Integer.MIN_VALUE};
        Supplier<TwinLedgers> scene = () -> {
            TwinLedgers x = sent(1, false, 1, 3);
            publish(x, 1);
            return x;
        };
        for (boolean forClose : ORDERS) {
            for (int s : none) {
                refused("packet " + s, scene, x -> x.timeout(0, 0, s, 4, forClose), WRONG);
            }
            refused("at another end", scene, x -> x.timeout(0, 1, 1, 4, forClose), WRONG);
            refused("at the receiver", scene, x -> x.timeout(1, 0, 1, 4, forClose), WRONG);
            refused("no ledger", scene, x -> x.timeout(2, 0, 1, 4, forClose), WRONG);
            refused("no ledger", scene, x -> x.timeout(-1, 0, 1, 4, forClose), WRONG);
            refused("no end", scene, x -> x.timeout(0, 3, 1, 4, forClose), WRONG);
            refused("no end", scene, x -> x.timeout(0, -1, 1, 4, forClose), WRONG);
        }
        due("0", scene.get().timeout(0, 0, 1, 4, false), 0);
    }

    private static void timeoutDone() {
        for (boolean ordered : ORDERS) {
            for (boolean forClose : ORDERS) {
                Supplier<TwinLedgers> settled = () -> {
                    TwinLedgers x = received(ordered);
                    x.acknowledge(0, 0, 1, 4);
                    x.acknowledge(0, 0, 2, 4);
                    return x;
                };
                refused("acknowledged", settled, x -> x.timeout(0, 0, 1, 4, forClose), DONE);
                refused("not taken", settled, x -> x.timeout(0, 0, 2, 99, forClose), DONE);
                Supplier<TwinLedgers> timedOut = () -> {
                    TwinLedgers x = sent(1, ordered, 1, 3);
                    publish(x, 1);
                    x.timeout(0, 0, 1, 4, false);
                    return x;
                };
                refused("timed out", timedOut, x -> x.timeout(0, 0, 1, 4, forClose), DONE);
                refused("DONE before LATE", timedOut, x -> x.timeout(0, 0, 1, 3, forClose), DONE);
                refused("DONE before UNKNOWN", timedOut, x -> x.timeout(0, 0, 1, 99, forClose), DONE);
            }
        }
    }

    private static void timeoutLate() {
        for (boolean ordered : ORDERS) {
            Supplier<TwinLedgers> scene = () -> {
                TwinLedgers x = sent(4, ordered, 1, 3);
                while (x.height(1) < 7) {
                    publish(x, 1);
                }
                return x;
            };
            int[] below = {6, 3, 0, -1, Integer.MIN_VALUE};
            for (int h : below) {
                refused("height " + h, scene, x -> x.timeout(0, 0, 1, h, false), LATE);
            }
            due("the limit", scene.get().timeout(0, 0, 1, 7, false), 0);
            refused("not for close", scene, x -> x.timeout(0, 0, 1, 6, true), PROOF);
            refused("not for close, at no height", scene, x -> x.timeout(0, 0, 1, -1, true), UNKNOWN);
            refused("LATE before PROOF, one that was received", () -> received(ordered),
                    x -> x.timeout(0, 0, 1, 4, false), LATE);
        }
    }

    private static void timeoutEndFirst() {
        Supplier<TwinLedgers> scene = () -> {
            TwinLedgers x = received(true);
            x.close(1, 0);
            publish(x, 1);
            return x;
        };
        refused("the end's proof is UNKNOWN, the number above", scene,
                x -> x.timeout(0, 0, 1, 6, true), UNKNOWN);
        refused("the end's proof is GONE, the number above", () -> {
            TwinLedgers x = scene.get();
            tick(x, 1, 8);
            return x;
        }, x -> x.timeout(0, 0, 1, 5, true), GONE);
        refused("the end's proof does not hold", scene, x -> x.timeout(0, 0, 1, 4, true), PROOF);
        TwinLedgers y = sent(16, true, 1, 3);
        y.close(1, 0);
        due("both hold", y.timeout(0, 0, 1, publish(y, 1), true), 0);
    }

    private static void timeoutNumberAbove() {
        Supplier<TwinLedgers> scene = () -> {
            TwinLedgers x = sent(2, true, 1, 3);
            x.receive(1, 0, 1, 4, false);
            publish(x, 1);
            publish(x, 1);
            return x;
        };
        refused("above 1", scene, x -> x.timeout(0, 0, 1, 5, false), PROOF);
        refused("above 1, before UNKNOWN", scene, x -> x.timeout(0, 0, 1, 99, false), PROOF);
        refused("above 1, before GONE", () -> {
            TwinLedgers x = scene.get();
            tick(x, 1, 8);
            return x;
        }, x -> x.timeout(0, 0, 1, 5, false), PROOF);
        refused("not above 2, but unknown", scene, x -> x.timeout(0, 0, 2, 6, false), UNKNOWN);
        due("not above 2", scene.get().timeout(0, 0, 2, 5, false), 0);
        refused("for close, above 1", () -> {
            TwinLedgers x = scene.get();
            x.close(1, 0);
            publish(x, 1);
            return x;
        }, x -> x.timeout(0, 0, 1, 6, true), PROOF);
    }
}
