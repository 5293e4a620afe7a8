import java.util.function.Supplier;

/** Promises 1 to 7: a new object, blocks, headers and the steps of an end. */
final class CallBoundaries extends Bench {
    static void run() {
        newObjectAndTick();
        updateSentences();
        handshakeSentences();
    }

    private static void newObjectAndTick() {
        chapter("Promise 1: A new object");
        sentence("`TwinLedgers(int patience)`: Both ledgers at height 0, nothing known, nothing open;",
                CallBoundaries::newObject);
        sentence("PATIENCE is patience if that is 1 .. 16, otherwise 4.", CallBoundaries::patience);
        chapter("Promise 2: tick");
        sentence("`int tick(int l)`: A block of ledger l; answers the height.", CallBoundaries::tick);
        sentence("WRONG.", CallBoundaries::tickWrong);
    }

    private static void newObject() {
        TwinLedgers x = new TwinLedgers(1);
        for (int l = 0; l < 2; l++) {
            due("height", x.height(l), 0);
            for (int h = -1; h <= 8; h++) {
                due("knows " + h, x.knows(l, h), false);
                due("root " + h, x.root(l, h), 0);
            }
            for (int c = 0; c < 3; c++) {
                due("state", x.end(l, c, 0), NONE);
                due("order", x.end(l, c, 1), 0);
                due("sent", x.end(l, c, 2), 0);
                due("no packet", x.packet(l, c, 1), WRONG);
                due("nothing to send by", x.send(l, c, 0, 0, 1), STATE);
                due("no escrow", x.escrow(l, c, 0), 0);
            }
            due("no voucher", x.voucher(l, 1), WRONG);
        }
        due("an empty round", x.round(), 0);
    }

    private static void patience() {
        int[] given = {1, 2, 15, 16, 0, 17, -1, 4, Integer.MIN_VALUE, Integer.MAX_VALUE};
        int[] meant = {1, 2, 15, 16, 4, 4, 4, 4, 4, 4};
        for (int i = 0; i < given.length; i++) {
            TwinLedgers x = opened(given[i], false);
            x.send(0, 0, 0, 0, 1);
            x.send(1, 0, 0, 0, 1);
            due("limit of ledger 0 with " + given[i], x.limit(0, 0, 1), 3 + meant[i]);
            due("limit of ledger 1 with " + given[i], x.limit(1, 0, 1), 3 + meant[i]);
        }
    }

    private static void tick() {
        TwinLedgers x = new TwinLedgers(4);
        for (int h = 1; h <= 10; h++) {
            due("ledger 1", x.tick(1), h);
            due("ledger 0 stays", x.height(0), 0);
        }
        due("ledger 0", x.tick(0), 1);
        due("ledger 1 stays", x.height(1), 10);
        due("no client learns of it", x.knows(0, 10), false);
    }

    private static void tickWrong() {
        int[] others = {-1, 2, Integer.MIN_VALUE, Integer.MAX_VALUE};
        for (int l : others) {
            refused("tick " + l, () -> opened(4, false), x -> x.tick(l), WRONG);
        }
    }

    private static void updateSentences() {
        chapter("Promise 3: update");
        sentence("`int update(int l, int h, int set, boolean wrong)`: The client of ledger l gets the "
                + "other one's header of height h,", CallBoundaries::update);
        sentence("signed by a set of validators (bits 1, 2, 4, 8; others count nowhere),",
                CallBoundaries::updateByOtherBits);
        sentence("with another root if it is false.", CallBoundaries::updateByAFalseOne);
        sentence("Answers 0; WRONG when there is no ledger l or the other one had no height h (1 or "
                + "more) yet;", CallBoundaries::updateWrong);
        sentence("FORGED when it is false or fewer than three signed.", CallBoundaries::updateForged);
    }

    private static void update() {
        TwinLedgers x = new TwinLedgers(4);
        tick(x, 0, 20);
        int[] heights = {20, 1, 7, 12, 13};
        for (int h : heights) {
            due("header " + h, x.update(1, h, ALL, false), 0);
            due("header " + h + " again", x.update(1, h, ALL, false), 0);
        }
        for (int h = 0; h <= 21; h++) {
            due("knows " + h, x.knows(1, h), h == 1 || h == 7 || h == 12 || h == 13 || h == 20);
        }
    }

    private static void updateByOtherBits() {
        int[] few = {0, 16, 1 + 2 + 16, 8 + 64 + 128, ~15, ~15 + 12, Integer.MIN_VALUE + 3, -16 + 1};
        int[] enough = {7, 11, 13, 14, 15, 7 + 16, ~15 + 7, -1, Integer.MAX_VALUE,
            Integer.MIN_VALUE + 14};
        Supplier<TwinLedgers> scene = () -> {
            TwinLedgers x = new TwinLedgers(4);
            x.tick(0);
            return x;
        };
        for (int set : few) {
            refused("set " + set, scene, x -> x.update(1, 1, set, false), FORGED);
        }
        for (int set : enough) {
            TwinLedgers x = scene.get();
            due("set " + set, x.update(1, 1, set, false), 0);
            due("knows by set " + set, x.knows(1, 1), true);
        }
    }

    private static void updateByAFalseOne() {
        TwinLedgers x = new TwinLedgers(4);
        x.init(0, 0, false);
        x.tick(0);
        due("false", x.update(1, 1, ALL, true), FORGED);
        due("not known", x.knows(1, 1), false);
        due("no proof by it", x.attempt(1, 0, false, 1), UNKNOWN);
        due("true", x.update(1, 1, ALL, false), 0);
        due("false after true", x.update(1, 1, ALL, true), FORGED);
        due("still known", x.knows(1, 1), true);
        due("a proof by the true one", x.attempt(1, 0, false, 1), 0);
    }

    private static void updateWrong() {
        Supplier<TwinLedgers> scene = () -> {
            TwinLedgers x = new TwinLedgers(4);
            tick(x, 0, 3);
            tick(x, 1, 5);
            return x;
        };
        int[] none = {0, 4, 5, -1, Integer.MIN_VALUE, Integer.MAX_VALUE};
        for (int h : none) {
            refused("height " + h, scene, x -> x.update(1, h, ALL, false), WRONG);
            refused("WRONG before FORGED", scene, x -> x.update(1, h, 0, true), WRONG);
        }
        int[] others = {-1, 2, Integer.MIN_VALUE, Integer.MAX_VALUE};
        for (int l : others) {
            refused("ledger " + l, scene, x -> x.update(l, 1, ALL, false), WRONG);
        }
        TwinLedgers x = scene.get();
        due("the first height", x.update(1, 1, ALL, false), 0);
        due("the last height", x.update(1, 3, ALL, false), 0);
        due("one beyond its own, of the other", x.update(0, 5, ALL, false), 0);
        tick(x, 0, 20);
        due("one whose state is gone", x.update(1, 2, ALL, false), 0);
        due("known, though it is gone", x.knows(1, 2), true);
        due("a new object has none", new TwinLedgers(4).update(0, 1, ALL, false), WRONG);
    }

    private static void updateForged() {
        Supplier<TwinLedgers> scene = () -> {
            TwinLedgers x = new TwinLedgers(4);
            x.tick(1);
            return x;
        };
        int[] two = {3, 5, 6, 9, 10, 12};
        int[] three = {7, 11, 13, 14};
        for (int set : two) {
            refused("two of set " + set, scene, x -> x.update(0, 1, set, false), FORGED);
        }
        for (int set : three) {
            due("three of set " + set, scene.get().update(0, 1, set, false), 0);
            refused("false, three of set " + set, scene, x -> x.update(0, 1, set, true), FORGED);
        }
    }

    private static void handshakeSentences() {
        chapter("Promise 4: init");
        sentence("`int init(int l, int c, boolean ordered)`: INIT of end c of ledger l.",
                CallBoundaries::initEveryEnd);
        sentence("Answers 0, WRONG, or STATE.", CallBoundaries::initRefused);
        chapter("Promise 5: attempt");
        sentence("`int attempt(int l, int c, boolean ordered, int h)`: TRY of end c of ledger l, with "
                + "the proof at height h.", CallBoundaries::attemptEveryEnd);
        sentence("Answers 0, WRONG, STATE,", CallBoundaries::attemptRefused);
        chapter("Promise 6: open");
        sentence("`int open(int l, int c, int step, int h)`: ACK (step 0), CONFIRM (1) or CLOSE TOO "
                + "(2) of end c of ledger l, with the proof at height h.", CallBoundaries::openEveryEnd);
        sentence("Answers 0, WRONG, STATE,", CallBoundaries::openRefused);
        chapter("Promise 7: close");
        sentence("`int close(int l, int c)`: CLOSE of end c of ledger l.",
                CallBoundaries::closeEveryEnd);
        sentence("Answers 0, WRONG, or STATE.", CallBoundaries::closeRefused);
    }

    private static void initEveryEnd() {
        TwinLedgers x = new TwinLedgers(4);
        for (int i = 0; i < 6; i++) {
            due("init", x.init(i / 3, i % 3, i % 2 == 1), 0);
            for (int j = 0; j < 6; j++) {
                due("state", x.end(j / 3, j % 3, 0), j <= i ? INIT : NONE);
                due("order", x.end(j / 3, j % 3, 1), j <= i ? j % 2 : 0);
            }
        }
    }

    private static void initRefused() {
        Supplier<TwinLedgers> scene = () -> HandshakeBoundaries.inState(INIT, true);
        refused("no ledger", scene, x -> x.init(2, 1, false), WRONG);
        refused("no ledger", scene, x -> x.init(-1, 1, false), WRONG);
        refused("no end", scene, x -> x.init(0, 3, false), WRONG);
        refused("no end", scene, x -> x.init(0, -1, false), WRONG);
        refused("again", scene, x -> x.init(1, 0, true), STATE);
        refused("again with another order", scene, x -> x.init(1, 0, false), STATE);
    }

    private static void attemptEveryEnd() {
        for (int l = 0; l < 2; l++) {
            for (int c = 0; c < 3; c++) {
                boolean ordered = c == 1;
                TwinLedgers x = new TwinLedgers(4);
                x.init(1 - l, c, ordered);
                due("its own height is none of the other one", x.attempt(l, c, ordered, 1), UNKNOWN);
                publish(x, 1 - l);
                due("try", x.attempt(l, c, ordered, 1), 0);
                due("state", x.end(l, c, 0), TRY);
                due("order", x.end(l, c, 1), ordered ? 1 : 0);
            }
        }
    }

    private static void attemptRefused() {
        Supplier<TwinLedgers> scene = () -> HandshakeBoundaries.inState(INIT, false);
        refused("no ledger", scene, x -> x.attempt(2, 0, false, 1), WRONG);
        refused("no ledger", scene, x -> x.attempt(-1, 0, false, 1), WRONG);
        refused("no end", scene, x -> x.attempt(1, 3, false, 1), WRONG);
        refused("no end", scene, x -> x.attempt(1, -1, false, 1), WRONG);
        refused("another order", scene, x -> x.attempt(1, 0, true, 1), STATE);
        refused("STATE before the proof", scene, x -> x.attempt(1, 0, true, 2), STATE);
        refused("the other one's is NONE", scene, x -> x.attempt(1, 1, false, 1), PROOF);
        due("0", scene.get().attempt(1, 0, false, 1), 0);
    }

    private static void openEveryEnd() {
        for (int l = 0; l < 2; l++) {
            for (int c = 0; c < 3; c++) {
                boolean ordered = c != 1;
                TwinLedgers x = new TwinLedgers(4);
                x.init(l, c, ordered);
                x.attempt(1 - l, c, ordered, publish(x, l));
                due("ACK", x.open(l, c, 0, publish(x, 1 - l)), 0);
                due("OPEN", x.end(l, c, 0), OPEN);
                due("CONFIRM", x.open(1 - l, c, 1, publish(x, l)), 0);
                due("OPEN", x.end(1 - l, c, 0), OPEN);
                x.close(1 - l, c);
                due("CLOSE TOO", x.open(l, c, 2, publish(x, 1 - l)), 0);
                due("CLOSED", x.end(l, c, 0), CLOSED);
            }
        }
    }

    private static void openRefused() {
        Supplier<TwinLedgers> scene = () -> opened(4, true);
        refused("no ledger", scene, x -> x.open(2, 0, 2, 3), WRONG);
        refused("no ledger", scene, x -> x.open(-1, 0, 2, 3), WRONG);
        refused("no end", scene, x -> x.open(0, 3, 2, 3), WRONG);
        refused("no end", scene, x -> x.open(0, -1, 2, 3), WRONG);
        refused("no step", scene, x -> x.open(0, 0, 3, 3), WRONG);
        refused("no step", scene, x -> x.open(0, 0, -1, 3), WRONG);
        refused("no step of NONE", scene, x -> x.open(0, 1, 3, 3), WRONG);
        refused("ACK of OPEN", scene, x -> x.open(0, 0, ACK, 3), STATE);
        refused("CONFIRM of OPEN", scene, x -> x.open(0, 0, CONFIRM, 3), STATE);
        refused("CLOSE TOO of NONE", scene, x -> x.open(0, 1, CLOSE_TOO, 3), STATE);
        refused("STATE before the proof", scene, x -> x.open(0, 0, ACK, 99), STATE);
        refused("CLOSE TOO, the other one's OPEN", scene, x -> x.open(0, 0, CLOSE_TOO, 3), PROOF);
    }

    private static void closeEveryEnd() {
        TwinLedgers x = openedAll(4);
        for (int i = 0; i < 6; i++) {
            due("close", x.close(i / 3, i % 3), 0);
            for (int j = 0; j < 6; j++) {
                due("state", x.end(j / 3, j % 3, 0), j <= i ? CLOSED : OPEN);
            }
        }
    }

    private static void closeRefused() {
        Supplier<TwinLedgers> scene = () -> HandshakeBoundaries.inState(CLOSED, true);
        refused("no ledger", scene, x -> x.close(2, 0), WRONG);
        refused("no ledger", scene, x -> x.close(-1, 0), WRONG);
        refused("no end", scene, x -> x.close(0, 3), WRONG);
        refused("no end", scene, x -> x.close(0, -1), WRONG);
        refused("CLOSED", scene, x -> x.close(1, 0), STATE);
        refused("NONE", scene, x -> x.close(1, 1), STATE);
        due("OPEN", scene.get().close(0, 0), 0);
    }
}
