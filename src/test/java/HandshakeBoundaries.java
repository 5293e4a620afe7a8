/** The six steps of an end, tried in each of the five states. */
final class HandshakeBoundaries extends Bench {
    private static final String[] STATES = {"NONE", "INIT", "TRY", "OPEN", "CLOSED"};

    static void run() {
        chapter("Terms");
        sentence("HANDSHAKE. INIT: an end that is NONE becomes INIT, ordered or not.",
                HandshakeBoundaries::init);
        sentence("TRY: an end that is NONE or is INIT with this order becomes TRY,",
                HandshakeBoundaries::tryByState);
        sentence("with the proof that the other one's is INIT with this order.",
                HandshakeBoundaries::tryByProof);
        sentence("ACK: one that is INIT becomes OPEN,", HandshakeBoundaries::ackByState);
        sentence("with the proof that the other one's is TRY with its order.",
                HandshakeBoundaries::ackByProof);
        sentence("CONFIRM: one that is TRY becomes OPEN,", HandshakeBoundaries::confirmByState);
        sentence("with the proof that the other one's is OPEN with its order.",
                HandshakeBoundaries::confirmByProof);
        sentence("CLOSE: one that is OPEN becomes CLOSED.", HandshakeBoundaries::closeByState);
        sentence("CLOSE TOO: one that is OPEN becomes CLOSED,", HandshakeBoundaries::closeTooByState);
        sentence("with the proof that the other one's is CLOSED with its order.",
                HandshakeBoundaries::closeTooByProof);
    }

    /** End 0 of ledger 1 is in this state; the newest header of ledger 0 is known to it. */
    static TwinLedgers inState(int state, boolean ordered) {
        if (state >= OPEN) {
            TwinLedgers x = opened(4, ordered);
            if (state == CLOSED) {
                x.close(1, 0);
            }
            return x;
        }
        TwinLedgers x = new TwinLedgers(4);
        x.init(0, 0, ordered);
        publish(x, 0);
        if (state == INIT) {
            x.init(1, 0, ordered);
        } else if (state == TRY) {
            x.attempt(1, 0, ordered, 1);
        }
        due("the scene's state", x.end(1, 0, 0), state);
        return x;
    }

    private static void init() {
        for (boolean ordered : ORDERS) {
            for (int state = INIT; state <= CLOSED; state++) {
                int from = state;
                for (boolean order : ORDERS) {
                    refused("init of " + STATES[state], () -> inState(from, ordered),
                            x -> x.init(1, 0, order), STATE);
                }
            }
            TwinLedgers x = new TwinLedgers(4);
            due("init of NONE", x.init(1, 0, ordered), 0);
            due("state", x.end(1, 0, 0), INIT);
            due("order", x.end(1, 0, 1), ordered ? 1 : 0);
            due("the other one's stays", x.end(0, 0, 0), NONE);
            due("the next end stays", x.end(1, 1, 0), NONE);
        }
    }

    private static void tryByState() {
        for (boolean ordered : ORDERS) {
            for (int state = NONE; state <= INIT; state++) {
                TwinLedgers x = inState(state, ordered);
                due("try of " + STATES[state], x.attempt(1, 0, ordered, 1), 0);
                due("state", x.end(1, 0, 0), TRY);
                due("order", x.end(1, 0, 1), ordered ? 1 : 0);
                due("the other one's stays", x.end(0, 0, 0), INIT);
            }
            refused("try of INIT with another order", () -> inState(INIT, ordered),
                    x -> x.attempt(1, 0, !ordered, 1), STATE);
            for (int state = TRY; state <= CLOSED; state++) {
                int from = state;
                for (boolean order : ORDERS) {
                    refused("try of " + STATES[state], () -> inState(from, ordered),
                            x -> x.attempt(1, 0, order, 1), STATE);
                    refused("STATE before UNKNOWN", () -> inState(from, ordered),
                            x -> x.attempt(1, 0, order, 99), STATE);
                }
            }
        }
    }

    private static void tryByProof() {
        for (boolean ordered : ORDERS) {
            refused("the other one's has another order", () -> inState(NONE, ordered),
                    x -> x.attempt(1, 0, !ordered, 1), PROOF);
            refused("the other one's is NONE", () -> inState(NONE, ordered),
                    x -> x.attempt(1, 1, ordered, 1), PROOF);
            TwinLedgers x = inState(INIT, ordered);
            publish(x, 1);
            due("one tries", x.attempt(0, 0, ordered, 1), 0);
            int h = publish(x, 0);
            due("the other one's is TRY by now", x.attempt(1, 0, ordered, h), PROOF);
            due("but it was INIT then", x.attempt(1, 0, ordered, 1), 0);
        }
    }

    private static void ackByState() {
        stepRefusedUnless(INIT, ACK);
        for (boolean ordered : ORDERS) {
            TwinLedgers x = inState(TRY, ordered);
            int h = publish(x, 1);
            due("ack", x.open(0, 0, ACK, h), 0);
            due("state", x.end(0, 0, 0), OPEN);
            due("order", x.end(0, 0, 1), ordered ? 1 : 0);
            due("the other one's stays", x.end(1, 0, 0), TRY);
            due("ack again", x.open(0, 0, ACK, h), STATE);
        }
    }

    /** In every other state the step is refused, whatever is known. */
    private static void stepRefusedUnless(int from, int step) {
        for (boolean ordered : ORDERS) {
            for (int state = NONE; state <= CLOSED; state++) {
                if (state != from) {
                    int other = state;
                    refused("step " + step + " of " + STATES[state], () -> inState(other, ordered),
                            x -> x.open(1, 0, step, x.height(0)), STATE);
                    refused("STATE before UNKNOWN", () -> inState(other, ordered),
                            x -> x.open(1, 0, step, 99), STATE);
                }
            }
        }
    }

    private static void ackByProof() {
        for (boolean ordered : ORDERS) {
            refused("the other one's is INIT", () -> inState(INIT, ordered),
                    x -> x.open(1, 0, ACK, 1), PROOF);
            TwinLedgers x = new TwinLedgers(4);
            x.init(0, 0, ordered);
            publish(x, 1);
            due("the other one's is NONE", x.open(0, 0, ACK, 1), PROOF);
            x.init(1, 0, !ordered);
            int h = publish(x, 1);
            due("the other one's has another order", x.open(0, 0, ACK, h), PROOF);
            due("state", x.end(0, 0, 0), INIT);
        }
    }

    private static void confirmByState() {
        stepRefusedUnless(TRY, CONFIRM);
        for (boolean ordered : ORDERS) {
            TwinLedgers x = inState(TRY, ordered);
            publish(x, 1);
            x.open(0, 0, ACK, 1);
            int h = publish(x, 0);
            due("confirm", x.open(1, 0, CONFIRM, h), 0);
            due("state", x.end(1, 0, 0), OPEN);
            due("order", x.end(1, 0, 1), ordered ? 1 : 0);
            due("confirm again", x.open(1, 0, CONFIRM, h), STATE);
        }
    }

    private static void confirmByProof() {
        for (boolean ordered : ORDERS) {
            refused("the other one's is INIT", () -> inState(TRY, ordered),
                    x -> x.open(1, 0, CONFIRM, 1), PROOF);
            bothTry(ordered);
            TwinLedgers x = inState(TRY, ordered);
            publish(x, 1);
            x.open(0, 0, ACK, 1);
            int open = publish(x, 0);
            x.close(0, 0);
            int closed = publish(x, 0);
            due("the other one's is CLOSED by now", x.open(1, 0, CONFIRM, closed), PROOF);
            due("but it was OPEN then", x.open(1, 0, CONFIRM, open), 0);
        }
    }

    private static void bothTry(boolean ordered) {
        TwinLedgers x = inState(INIT, ordered);
        publish(x, 1);
        due("the one tries", x.attempt(0, 0, ordered, 1), 0);
        due("the other one tries", x.attempt(1, 0, ordered, 1), 0);
        publish(x, 0);
        publish(x, 1);
        for (int l = 0; l < 2; l++) {
            due("the other one's is TRY", x.open(l, 0, CONFIRM, 2), PROOF);
            due("ack of TRY", x.open(l, 0, ACK, 2), STATE);
        }
    }

    private static void closeByState() {
        for (boolean ordered : ORDERS) {
            for (int state = NONE; state <= CLOSED; state++) {
                if (state != OPEN) {
                    int other = state;
                    refused("close of " + STATES[state], () -> inState(other, ordered),
                            x -> x.close(1, 0), STATE);
                }
            }
            TwinLedgers x = inState(OPEN, ordered);
            due("close of OPEN", x.close(1, 0), 0);
            due("state", x.end(1, 0, 0), CLOSED);
            due("order", x.end(1, 0, 1), ordered ? 1 : 0);
            due("the other one's stays", x.end(0, 0, 0), OPEN);
        }
    }

    private static void closeTooByState() {
        stepRefusedUnless(OPEN, CLOSE_TOO);
        for (boolean ordered : ORDERS) {
            TwinLedgers x = inState(OPEN, ordered);
            x.close(0, 0);
            int h = publish(x, 0);
            due("close too", x.open(1, 0, CLOSE_TOO, h), 0);
            due("state", x.end(1, 0, 0), CLOSED);
            due("order", x.end(1, 0, 1), ordered ? 1 : 0);
            due("close too again", x.open(1, 0, CLOSE_TOO, h), STATE);
        }
    }

    private static void closeTooByProof() {
        for (boolean ordered : ORDERS) {
            refused("the other one's is OPEN", () -> inState(OPEN, ordered),
                    x -> x.open(1, 0, CLOSE_TOO, 3), PROOF);
            refused("the other one's is CLOSED, but in no block yet", () -> {
                TwinLedgers x = inState(OPEN, ordered);
                x.close(0, 0);
                return x;
            }, x -> x.open(1, 0, CLOSE_TOO, 3), PROOF);
            TwinLedgers x = new TwinLedgers(4);
            x.init(0, 0, ordered);
            publish(x, 0);
            x.attempt(1, 0, ordered, 1);
            int h = publish(x, 1);
            x.open(0, 0, ACK, h);
            due("the other one's is TRY", x.open(0, 0, CLOSE_TOO, h), PROOF);
        }
    }
}
