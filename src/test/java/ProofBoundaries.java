import java.util.List;
import java.util.function.Supplier;

/** How proofs fail, for every call that needs one. */
final class ProofBoundaries extends Bench {
    /** A call with a proof at a height. */
    private interface Call {
        int at(TwinLedgers x, int h);
    }

    /**
     * A scene, in which the call's proof holds by the prover's newest state, which is known; by the
     * state at height poor, known too, it does not (0: there is none such).
     */
    private record Case(String name, Supplier<TwinLedgers> scene, int prover, int good, int poor,
            Call call) {
        int at(TwinLedgers x, int h) {
            return call.at(x, h);
        }
    }

    static void run() {
        chapter("Terms");
        sentence("A PROOF (h, k, v), or that a key is not there, is made from the other ledger's "
                + "state at height h.", ProofBoundaries::holdsByThatState);
        sentence("It fails: with UNKNOWN if the client does not know h,", ProofBoundaries::unknown);
        sentence("else with GONE if the other one does not keep that state any more,",
                ProofBoundaries::gone);
        sentence("else with PROOF if in that state k has not the value v (or is there).",
                ProofBoundaries::proofFails);
        chapter("Promise 5: attempt");
        sentence("or as the proof fails.", () -> allFaultsOf("attempt"));
        chapter("Promise 6: open");
        sentence("or as the proof fails.", () -> {
            allFaultsOf("ack");
            allFaultsOf("confirm");
            allFaultsOf("close too");
        });
        chapter("Promise 9: receive");
        sentence("or as the proof fails.", () -> allFaultsOf("receive"));
        chapter("Promise 10: acknowledge");
        sentence("or as the proof fails.", () -> allFaultsOf("acknowledge"));
        chapter("Promise 11: timeout");
        sentence("as a proof fails", () -> allFaultsOf("timeout"));
    }

    private static List<Case> cases() {
        return List.of(
                new Case("attempt", () -> toAttempt(false), 0, 0, 1, (x, h) -> x.attempt(1, 0, false, h)),
                new Case("attempt, ordered", () -> toAttempt(true), 0, 0, 1,
                        (x, h) -> x.attempt(1, 0, true, h)),
                new Case("ack", () -> toAck(false), 1, 0, 1, (x, h) -> x.open(0, 0, ACK, h)),
                new Case("ack, ordered", () -> toAck(true), 1, 0, 1, (x, h) -> x.open(0, 0, ACK, h)),
                new Case("confirm", () -> toConfirm(false), 0, 0, 1, (x, h) -> x.open(1, 0, CONFIRM, h)),
                new Case("confirm, ordered", () -> toConfirm(true), 0, 0, 1,
                        (x, h) -> x.open(1, 0, CONFIRM, h)),
                closeToo("close too", false),
                closeToo("close too, ordered", true),
                receive("receive", false),
                receive("receive, ordered", true),
                acknowledge("acknowledge", false),
                acknowledge("acknowledge, ordered", true),
                timeout("timeout", false, false),
                timeout("timeout, ordered", true, false),
                timeout("timeout for close", false, true),
                timeout("timeout for close, ordered", true, true));
    }

    private static Case closeToo(String name, boolean ordered) {
        return new Case(name, () -> toCloseToo(ordered), 0, 0, 3, (x, h) -> x.open(1, 0, CLOSE_TOO, h));
    }

    private static Case receive(String name, boolean ordered) {
        return new Case(name, () -> toReceive(ordered), 0, 1, 3, (x, h) -> x.receive(1, 0, 1, h, false));
    }

    private static Case acknowledge(String name, boolean ordered) {
        return new Case(name, () -> toAcknowledge(ordered), 1, 1, 3, (x, h) -> x.acknowledge(0, 0, 1, h));
    }

    private static Case timeout(String name, boolean ordered, boolean forClose) {
        Supplier<TwinLedgers> scene = forClose ? () -> toTimeOutForClose(ordered) : () -> toTimeOut(ordered);
        return new Case(name, scene, 1, 0, forClose ? 3 : 0, (x, h) -> x.timeout(0, 0, 1, h, forClose));
    }

    private static TwinLedgers toAttempt(boolean ordered) {
        TwinLedgers x = new TwinLedgers(4);
        publish(x, 0);
        x.init(0, 0, ordered);
        publish(x, 0);
        return x;
    }

    private static TwinLedgers toAck(boolean ordered) {
        TwinLedgers x = new TwinLedgers(4);
        x.init(0, 0, ordered);
        publish(x, 0);
        publish(x, 1);
        x.attempt(1, 0, ordered, 1);
        publish(x, 1);
        return x;
    }

    private static TwinLedgers toConfirm(boolean ordered) {
        TwinLedgers x = toAck(ordered);
        x.open(0, 0, ACK, 2);
        publish(x, 0);
        return x;
    }

    private static TwinLedgers toCloseToo(boolean ordered) {
        TwinLedgers x = opened(4, ordered);
        x.close(0, 0);
        publish(x, 0);
        return x;
    }

    private static TwinLedgers toReceive(boolean ordered) {
        TwinLedgers x = opened(16, ordered);
        x.send(0, 0, who(0, 1), 0, 10);
        publish(x, 0);
        return x;
    }

    private static TwinLedgers toAcknowledge(boolean ordered) {
        TwinLedgers x = toReceive(ordered);
        x.receive(1, 0, 1, 4, false);
        publish(x, 1);
        return x;
    }

    private static TwinLedgers toTimeOut(boolean ordered) {
        TwinLedgers x = opened(1, ordered);
        x.send(0, 0, who(0, 1), 0, 10);
        publish(x, 1);
        return x;
    }

    private static TwinLedgers toTimeOutForClose(boolean ordered) {
        TwinLedgers x = opened(16, ordered);
        x.send(0, 0, who(0, 1), 0, 10);
        x.close(1, 0);
        publish(x, 1);
        return x;
    }

    private static void holdsByThatState() {
        for (Case one : cases()) {
            TwinLedgers x = one.scene.get();
            int newest = x.height(one.prover);
            due(one.name + " by the newest state", one.at(x, newest), one.good);
            TwinLedgers y = one.scene.get();
            tick(y, one.prover, 7);
            due(one.name + " by the oldest state that is kept", one.at(y, newest), one.good);
        }
    }

    private static void unknown() {
        for (Case one : cases()) {
            unknownTo(one);
        }
    }

    private static void unknownTo(Case one) {
        int next = one.scene.get().height(one.prover) + 1;
        int[] never = {next, next + 1, Integer.MAX_VALUE};
        for (int h : never) {
            refused(one.name + " by height " + h + " to come", one.scene, x -> one.at(x, h), UNKNOWN);
        }
        TwinLedgers x = one.scene.get();
        x.tick(one.prover);
        due(one.name + " by a height not told", one.at(x, next), UNKNOWN);
        x.update(1 - one.prover, next, ALL, true);
        x.update(1 - one.prover, next, 3, false);
        due(one.name + " by a header that was forged", one.at(x, next), UNKNOWN);
        tick(x, one.prover, 8);
        due(one.name + " not known and gone", one.at(x, next), UNKNOWN);
        if (one.name.startsWith("timeout") && !one.name.contains("close")) {
            return;
        }
        int[] none = {0, -1, Integer.MIN_VALUE};
        for (int h : none) {
            refused(one.name + " by height " + h, one.scene, y -> one.at(y, h), UNKNOWN);
        }
    }

    private static void gone() {
        for (Case one : cases()) {
            goneFor(one);
        }
    }

    private static void goneFor(Case one) {
        int newest = one.scene.get().height(one.prover);
        Supplier<TwinLedgers> later = () -> {
            TwinLedgers x = one.scene.get();
            tick(x, one.prover, 8);
            return x;
        };
        refused(one.name + " by a state that went just now", later, x -> one.at(x, newest), GONE);
        if (one.poor > 0) {
            refused(one.name + " that would not hold either", later, x -> one.at(x, one.poor), GONE);
        }
    }

    private static void proofFails() {
        for (Case one : cases()) {
            failsByAnotherState(one);
        }
        TwinLedgers x = opened(1, false);
        x.send(0, 0, who(0, 1), 0, 10);
        int h = publish(x, 0);
        due("received in time", x.receive(1, 0, 1, h, false), 1);
        int g = publish(x, 1);
        due("the key is there", x.timeout(0, 0, 1, g, false), PROOF);
        TwinLedgers y = new TwinLedgers(4);
        publish(y, 0);
        due("a state without keys", y.attempt(1, 0, false, 1), PROOF);
    }

    private static void failsByAnotherState(Case one) {
        if (one.poor > 0) {
            refused(one.name + " by another state", one.scene, x -> one.at(x, one.poor), PROOF);
        }
    }

    private static void allFaultsOf(String name) {
        for (Case one : cases()) {
            if (one.name.startsWith(name)) {
                unknownTo(one);
                goneFor(one);
                failsByAnotherState(one);
            }
        }
    }
}
