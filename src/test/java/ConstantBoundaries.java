import java.util.function.Supplier;

/** The nine refusals, each by what its sentence names. */
final class ConstantBoundaries extends Bench {
    static void run() {
        chapter("Terms");
        sentence("The constants: `WRONG = -1`: There is no such ledger, end, packet, user or kind,",
                ConstantBoundaries::nothingSuch);
        sentence("or a number is not as said.", ConstantBoundaries::numberNotAsSaid);
        sentence("`STATE = -2`: The end's state does not allow it.", ConstantBoundaries::state);
        sentence("`UNKNOWN = -3`: The client does not know this height.", ConstantBoundaries::unknown);
        sentence("`GONE = -4`: The state at this height is not kept any more.",
                ConstantBoundaries::gone);
        sentence("`PROOF = -5`: The proof does not hold.", ConstantBoundaries::proof);
        sentence("`FORGED = -6`: Fewer than three validators, or a header that is not the true one.",
                ConstantBoundaries::forged);
        sentence("`POOR = -7`: The user has less, or twelve packets were sent.",
                ConstantBoundaries::poor);
        sentence("`DONE = -8`: Received already, not the next one, or settled already.",
                ConstantBoundaries::done);
        sentence("`LATE = -9`: The limit is reached, or (to time out) it is not.",
                ConstantBoundaries::late);
    }

    private static void nothingSuch() {
        due("the constant", TwinLedgers.WRONG, WRONG);
        Supplier<TwinLedgers> scene = () -> sent(16, false, 1, 1);
        refused("no ledger", scene, x -> x.tick(2), WRONG);
        refused("no end", scene, x -> x.init(0, 3, false), WRONG);
        int[] packets = {0, 3, 13, -1, Integer.MAX_VALUE, Integer.MIN_VALUE};
        for (int s : packets) {
            refused("receive " + s, scene, x -> x.receive(1, 0, s, 4, false), WRONG);
            refused("acknowledge " + s, scene, x -> x.acknowledge(0, 0, s, 3), WRONG);
            refused("timeout " + s, scene, x -> x.timeout(0, 0, s, 3, false), WRONG);
            refused("timeout for close " + s, scene, x -> x.timeout(0, 0, s, 3, true), WRONG);
            refused("packet " + s, scene, x -> x.packet(0, 0, s), WRONG);
            refused("limit " + s, scene, x -> x.limit(0, 0, s), WRONG);
        }
        refused("no user to send", scene, x -> x.send(0, 0, 16, 0, 1), WRONG);
        int[] kinds = {-1, 1, 5, 6, Integer.MAX_VALUE, Integer.MIN_VALUE};
        for (int kind : kinds) {
            refused("send kind " + kind, scene, x -> x.send(0, 0, 0, kind, 1), WRONG);
        }
    }

    private static void numberNotAsSaid() {
        Supplier<TwinLedgers> scene = () -> sent(16, false, 1, 1);
        int[] amounts = {0, 1001, -1, Integer.MAX_VALUE, Integer.MIN_VALUE};
        for (int amount : amounts) {
            refused("send " + amount, scene, x -> x.send(0, 0, 0, 0, amount), WRONG);
        }
        int[] steps = {-1, 3, Integer.MAX_VALUE, Integer.MIN_VALUE};
        for (int step : steps) {
            refused("step " + step, scene, x -> x.open(0, 0, step, 3), WRONG);
        }
        int[] whats = {-1, 5, Integer.MAX_VALUE, Integer.MIN_VALUE};
        for (int what : whats) {
            refused("what " + what, scene, x -> x.end(0, 0, what), WRONG);
        }
        int[] heights = {0, 5, -1, Integer.MAX_VALUE, Integer.MIN_VALUE};
        for (int h : heights) {
            refused("header " + h, scene, x -> x.update(1, h, ALL, false), WRONG);
        }
        int[] vouchers = {0, 1, -1, Integer.MAX_VALUE, Integer.MIN_VALUE};
        for (int k : vouchers) {
            refused("voucher " + k, scene, x -> x.voucher(1, k), WRONG);
        }
    }

    private static void state() {
        due("the constant", TwinLedgers.STATE, STATE);
        for (boolean ordered : ORDERS) {
            for (int at = NONE; at <= CLOSED; at++) {
                if (at != OPEN) {
                    int state = at;
                    refused("send in state " + at, () -> HandshakeBoundaries.inState(state, ordered),
                            x -> x.send(1, 0, 0, 0, 1), STATE);
                }
            }
            refused("receive in TRY", () -> sentToOneThatTries(ordered),
                    x -> x.receive(1, 0, 1, 2, false), STATE);
            refused("receive in CLOSED", () -> {
                TwinLedgers x = sent(16, ordered, 1, 1);
                x.close(1, 0);
                return x;
            }, x -> x.receive(1, 0, 1, 4, false), STATE);
            refused("acknowledge in CLOSED", () -> {
                TwinLedgers x = sent(16, ordered, 1, 1);
                x.receive(1, 0, 1, 4, false);
                publish(x, 1);
                x.close(0, 0);
                return x;
            }, x -> x.acknowledge(0, 0, 1, 4), STATE);
        }
        refused("init in INIT", () -> HandshakeBoundaries.inState(INIT, false),
                x -> x.init(1, 0, false), STATE);
        refused("close in TRY", () -> HandshakeBoundaries.inState(TRY, false),
                x -> x.close(1, 0), STATE);
    }

    /** The one's end is OPEN and has sent a packet; the other one's is TRY. */
    static TwinLedgers sentToOneThatTries(boolean ordered) {
        TwinLedgers x = new TwinLedgers(16);
        x.init(0, 0, ordered);
        publish(x, 0);
        x.attempt(1, 0, ordered, 1);
        publish(x, 1);
        x.open(0, 0, ACK, 1);
        due("sent", x.send(0, 0, who(0, 1), 0, 10), 1);
        publish(x, 0);
        return x;
    }

    private static void unknown() {
        due("the constant", TwinLedgers.UNKNOWN, UNKNOWN);
        TwinLedgers x = opened(16, false);
        x.send(0, 0, who(0, 1), 0, 10);
        x.tick(0);
        due("before the update", x.receive(1, 0, 1, 4, false), UNKNOWN);
        x.update(1, 4, 3, false);
        due("after one that was forged", x.receive(1, 0, 1, 4, false), UNKNOWN);
        x.update(1, 4, 7, false);
        due("after the update", x.receive(1, 0, 1, 4, false), 1);
    }

    private static void gone() {
        due("the constant", TwinLedgers.GONE, GONE);
        TwinLedgers x = sent(16, false, 1, 1);
        tick(x, 0, 7);
        due("the eighth last", x.receive(1, 0, 1, 4, false), 1);
        x.tick(0);
        due("the ninth last", x.receive(1, 0, 2, 4, false), GONE);
        due("known it is", x.knows(1, 4), true);
    }

    private static void proof() {
        due("the constant", TwinLedgers.PROOF, PROOF);
        refused("another value", () -> sent(16, false, 1, 1), x -> x.receive(1, 0, 1, 4, true), PROOF);
        refused("no value", () -> sent(16, false, 1, 1), x -> x.receive(1, 0, 1, 3, false), PROOF);
        refused("a value that should not be", () -> {
            TwinLedgers x = sent(2, false, 1, 1);
            x.receive(1, 0, 1, 4, false);
            publish(x, 1);
            publish(x, 1);
            return x;
        }, x -> x.timeout(0, 0, 1, 5, false), PROOF);
    }

    private static void forged() {
        due("the constant", TwinLedgers.FORGED, FORGED);
        Supplier<TwinLedgers> scene = () -> {
            TwinLedgers x = new TwinLedgers(4);
            x.init(0, 0, false);
            x.tick(0);
            return x;
        };
        for (int set = 0; set < 16; set++) {
            int signed = set % 2 + set / 2 % 2 + set / 4 % 2 + set / 8;
            int signers = set;
            if (signed < 3) {
                refused("set " + set, scene, x -> x.update(1, 1, signers, false), FORGED);
            } else {
                due("set " + set, scene.get().update(1, 1, set, false), 0);
            }
            refused("false, set " + set, scene, x -> x.update(1, 1, signers, true), FORGED);
        }
    }

    private static void poor() {
        due("the constant", TwinLedgers.POOR, POOR);
        Supplier<TwinLedgers> spent = () -> {
            TwinLedgers x = opened(16, false);
            x.send(0, 0, who(0, 1), 0, 600);
            return x;
        };
        refused("one more than it has", spent, x -> x.send(0, 0, who(0, 1), 0, 401), POOR);
        due("all that it has", spent.get().send(0, 0, who(0, 1), 0, 400), 2);
        Supplier<TwinLedgers> full = () -> {
            TwinLedgers x = opened(16, false);
            for (int s = 1; s <= 12; s++) {
                due("send", x.send(0, 0, who(0, 1), 0, 1), s);
            }
            return x;
        };
        refused("a 13th", full, x -> x.send(0, 0, who(0, 1), 0, 1), POOR);
        refused("a 13th of one who has less", full, x -> x.send(0, 0, who(0, 1), 0, 1000), POOR);
    }

    private static void done() {
        due("the constant", TwinLedgers.DONE, DONE);
        Supplier<TwinLedgers> received = () -> {
            TwinLedgers x = sent(16, false, 1, 1);
            x.receive(1, 0, 1, 4, false);
            publish(x, 1);
            x.acknowledge(0, 0, 1, 4);
            return x;
        };
        refused("received already", received, x -> x.receive(1, 0, 1, 4, false), DONE);
        refused("settled already, to acknowledge", received, x -> x.acknowledge(0, 0, 1, 4), DONE);
        refused("settled already, to time out", received, x -> x.timeout(0, 0, 1, 99, false), DONE);
        refused("settled already, to time out for close", received,
                x -> x.timeout(0, 0, 1, 4, true), DONE);
        Supplier<TwinLedgers> ordered = () -> {
            TwinLedgers x = sent(16, true, 1, 1);
            x.receive(1, 0, 1, 4, false);
            x.receive(1, 0, 2, 4, false);
            publish(x, 1);
            return x;
        };
        refused("not the next one, to receive", () -> sent(16, true, 1, 1),
                x -> x.receive(1, 0, 2, 4, false), DONE);
        refused("not the next one, to acknowledge", ordered, x -> x.acknowledge(0, 0, 2, 4), DONE);
    }

    private static void late() {
        due("the constant", TwinLedgers.LATE, LATE);
        for (boolean ordered : ORDERS) {
            Supplier<TwinLedgers> atLimit = () -> {
                TwinLedgers x = sent(2, ordered, 1, 1);
                publish(x, 1);
                publish(x, 1);
                return x;
            };
            refused("the limit is reached", atLimit, x -> x.receive(1, 0, 1, 4, false), LATE);
            refused("it is not, to time out", atLimit, x -> x.timeout(0, 0, 1, 4, false), LATE);
            due("it is, to time out", atLimit.get().timeout(0, 0, 1, 5, false), 0);
            TwinLedgers x = sent(2, ordered, 1, 1);
            publish(x, 1);
            due("the limit is not reached", x.receive(1, 0, 1, 4, false), 1);
        }
    }
}
