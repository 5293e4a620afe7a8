/** For every promise: ordinary calls, the edges that the document names, and wrong calls. */
public final class PromiseTest extends Bench {
    private static final int NO_LEDGER = 2;
    private static final int NO_END = 3;
    private static final int[] ODD_NUMBERS = {
        Integer.MIN_VALUE, Integer.MIN_VALUE + 1, -513, -64, -2, -1, 16, 17, 64, 512, 513, 514, 4096,
        Integer.MAX_VALUE - 1, Integer.MAX_VALUE
    };

    public static void main(String[] args) {
        promise1();
        promise2();
        promise3();
        promise4();
        promise5();
        promise6();
        promise7();
        promise8();
        promise8GoingBack();
        promise9();
        promise9Ordered();
        promise9Vouchers();
        promise9Kinds();
        promise9Late();
        promise10();
        promise10Ordered();
        promise10Proof();
        promise11();
        promise11Ordered();
        promise11ForClose();
        promise11OrderedForClose();
        promise11GoingBack();
        promise12();
        promise12Order();
        promise13();
        promise14();
        promise14Packets();
        promise15();
        promise16();
        promise17();
        promise18();
        promise19();
        promise20();
        promise21();
        oddNumbers();
        finish();
    }

    private static void promise1() {
        chapter("Promise 1");
        TwinLedgers x = new TwinLedgers(4);
        for (int l = 0; l < 2; l++) {
            due("height", x.height(l), 0);
            due("root", x.root(l, 0), 0);
            due("knows 0", x.knows(l, 0), false);
            due("knows 1", x.knows(l, 1), false);
            due("voucher", x.voucher(l, 1), -1);
            for (int c = 0; c < 3; c++) {
                int[] first = {0, 0, 0, 1, 1};
                for (int what = 0; what < 5; what++) {
                    due("end " + what, x.end(l, c, what), first[what]);
                }
                due("packet", x.packet(l, c, 1), -1);
                due("escrow", x.escrow(l, c, 0), 0);
            }
            for (int u = 0; u < 4; u++) {
                due("balance", x.balance(l, u, 0), 1000);
                due("balance of a voucher", x.balance(l, u, 1), 0);
            }
        }
        int[] patience = {1, 2, 15, 16, 0, 17, -1, Integer.MIN_VALUE, Integer.MAX_VALUE};
        int[] meant = {1, 2, 15, 16, 4, 4, 4, 4, 4};
        for (int i = 0; i < patience.length; i++) {
            TwinLedgers y = opened(patience[i], false);
            y.send(0, 0, 0, 0, 1);
            due("limit with patience " + patience[i], y.limit(0, 0, 1), 3 + meant[i]);
        }
    }

    private static void promise2() {
        chapter("Promise 2");
        TwinLedgers x = new TwinLedgers(4);
        due("tick", x.tick(0), 1);
        due("tick", x.tick(0), 2);
        due("tick of the other", x.tick(1), 1);
        due("tick -1", x.tick(-1), -1);
        due("tick 2", x.tick(NO_LEDGER), -1);
        due("height", x.height(0), 2);
        due("height", x.height(1), 1);
        TwinLedgers y = new TwinLedgers(4);
        for (int i = 1; i <= 512; i++) {
            due("tick number " + i, y.tick(1), i);
        }
    }

    private static void promise3() {
        chapter("Promise 3");
        TwinLedgers x = new TwinLedgers(4);
        due("no height yet", x.update(0, 1, 15, false), -1);
        x.tick(1);
        x.tick(1);
        due("height 0", x.update(0, 0, 15, false), -1);
        due("height -1", x.update(0, -1, 15, false), -1);
        due("height 3", x.update(0, 3, 15, false), -1);
        due("no ledger", x.update(NO_LEDGER, 1, 15, false), -1);
        due("no ledger", x.update(-1, 1, 15, false), -1);
        due("its own height", x.update(1, 1, 15, false), -1);
        due("WRONG before FORGED", x.update(0, 3, 0, true), -1);
        due("false", x.update(0, 1, 15, true), -6);
        due("knows a false one", x.knows(0, 1), false);
        for (int set = 0; set < 16; set++) {
            int want = set == 7 || set == 11 || set == 13 || set == 14 || set == 15 ? 0 : -6;
            TwinLedgers y = new TwinLedgers(4);
            y.tick(0);
            due("set " + set, y.update(1, 1, set, false), want);
            due("knows by set " + set, y.knows(1, 1), want == 0);
            due("set with more bits", y.update(1, 1, set | 0xfffffff0, false), want);
        }
        due("others count nowhere", x.update(0, 1, 16 + 32 + 64 + 3, false), -6);
        due("the older one", x.update(0, 1, 7, false), 0);
        due("knows 2", x.knows(0, 2), false);
        due("the newer one", x.update(0, 2, 7, false), 0);
        due("again", x.update(0, 2, 7, false), 0);
        due("false after true", x.update(0, 2, 7, true), -6);
        due("knows it still", x.knows(0, 2), true);
        for (int i = 0; i < 10; i++) {
            x.tick(1);
        }
        due("of a state that is gone", x.update(0, 3, 7, false), 0);
        due("knows 3", x.knows(0, 3), true);
    }

    private static void promise4() {
        chapter("Promise 4");
        TwinLedgers x = new TwinLedgers(4);
        due("no ledger", x.init(NO_LEDGER, 0, false), -1);
        due("no end", x.init(0, NO_END, false), -1);
        due("no end", x.init(0, -1, false), -1);
        due("init", x.init(0, 0, false), 0);
        due("state", x.end(0, 0, 0), 1);
        due("order", x.end(0, 0, 1), 0);
        due("init again", x.init(0, 0, false), -2);
        due("init with another order", x.init(0, 0, true), -2);
        due("order", x.end(0, 0, 1), 0);
        due("init ordered", x.init(1, 2, true), 0);
        due("order", x.end(1, 2, 1), 1);
        due("the other one's", x.end(0, 2, 0), 0);
        openChannel(x, 1, true);
        due("init of an open one", x.init(0, 1, true), -2);
        x.close(0, 1);
        due("init of a closed one", x.init(0, 1, true), -2);
    }

    private static void promise5() {
        chapter("Promise 5");
        TwinLedgers x = new TwinLedgers(4);
        x.init(0, 0, false);
        x.init(0, 1, true);
        due("unknown", x.attempt(1, 0, false, 1), -3);
        due("height 0", x.attempt(1, 0, false, 0), -3);
        due("height below 0", x.attempt(1, 0, false, -8), -3);
        publish(x, 0);
        due("no ledger", x.attempt(NO_LEDGER, 0, false, 1), -1);
        due("no end", x.attempt(1, NO_END, false, 1), -1);
        due("no end", x.attempt(1, -1, false, 1), -1);
        due("another order", x.attempt(1, 0, true, 1), -5);
        due("another order", x.attempt(1, 1, false, 1), -5);
        due("of an end that is NONE", x.attempt(1, 2, false, 1), -5);
        due("still NONE", x.end(1, 0, 0), 0);
        due("try", x.attempt(1, 0, false, 1), 0);
        due("state", x.end(1, 0, 0), 2);
        due("try again", x.attempt(1, 0, false, 1), -2);
        due("STATE before UNKNOWN", x.attempt(1, 0, false, 99), -2);
        due("try ordered", x.attempt(1, 1, true, 1), 0);
        due("order", x.end(1, 1, 1), 1);
        x.init(1, 2, true);
        x.init(0, 2, true);
        publish(x, 0);
        due("INIT with another order", x.attempt(1, 2, false, 2), -2);
        due("too old a state", x.attempt(1, 2, true, 1), -5);
        due("INIT with this order", x.attempt(1, 2, true, 2), 0);
        due("state", x.end(1, 2, 0), 2);
        due("order", x.end(1, 2, 1), 1);
        TwinLedgers y = new TwinLedgers(4);
        y.init(0, 0, false);
        publish(y, 0);
        for (int i = 0; i < 7; i++) {
            y.tick(0);
        }
        due("last height kept", y.attempt(1, 0, true, 1), -5);
        y.tick(0);
        due("gone", y.attempt(1, 0, false, 1), -4);
        due("not known, not gone", y.attempt(1, 0, false, 9), -3);
        due("still NONE", y.end(1, 0, 0), 0);
    }

    private static void promise6() {
        chapter("Promise 6");
        TwinLedgers x = new TwinLedgers(4);
        x.init(0, 0, true);
        publish(x, 0);
        due("ack of NONE", x.open(1, 0, 0, 1), -2);
        due("confirm of NONE", x.open(1, 0, 1, 1), -2);
        due("close too of NONE", x.open(1, 0, 2, 1), -2);
        x.attempt(1, 0, true, 1);
        due("ack, unknown", x.open(0, 0, 0, 1), -3);
        publish(x, 1);
        due("no ledger", x.open(NO_LEDGER, 0, 0, 1), -1);
        due("no end", x.open(0, NO_END, 0, 1), -1);
        due("no step", x.open(0, 0, 3, 1), -1);
        due("no step", x.open(0, 0, -1, 1), -1);
        due("no step before STATE", x.open(0, 1, 3, 1), -1);
        due("confirm of INIT", x.open(0, 0, 1, 1), -2);
        due("close too of INIT", x.open(0, 0, 2, 1), -2);
        due("ack of TRY", x.open(1, 0, 0, 1), -2);
        due("confirm, the other still INIT", x.open(1, 0, 1, 1), -5);
        due("ack", x.open(0, 0, 0, 1), 0);
        due("state", x.end(0, 0, 0), 3);
        due("order", x.end(0, 0, 1), 1);
        due("ack again", x.open(0, 0, 0, 1), -2);
        due("confirm by the old state", x.open(1, 0, 1, 1), -5);
        publish(x, 0);
        due("confirm", x.open(1, 0, 1, 2), 0);
        due("state", x.end(1, 0, 0), 3);
        due("close too, the other open", x.open(1, 0, 2, 2), -5);
        x.close(0, 0);
        due("close too, not yet known", x.open(1, 0, 2, 3), -3);
        publish(x, 0);
        due("close too", x.open(1, 0, 2, 3), 0);
        due("state", x.end(1, 0, 0), 4);
        due("order", x.end(1, 0, 1), 1);
        due("close too again", x.open(1, 0, 2, 3), -2);
        promise6BothInit();
    }

    private static void promise6BothInit() {
        TwinLedgers x = new TwinLedgers(4);
        x.init(0, 0, false);
        x.init(1, 0, true);
        publish(x, 0);
        publish(x, 1);
        due("ack, the other INIT", x.open(0, 0, 0, 1), -5);
        TwinLedgers y = new TwinLedgers(4);
        y.init(0, 0, false);
        y.init(1, 0, false);
        publish(y, 0);
        publish(y, 1);
        due("both INIT, one tries", y.attempt(1, 0, false, 1), 0);
        for (int i = 0; i < 8; i++) {
            y.tick(1);
        }
        due("ack, gone", y.open(0, 0, 0, 1), -4);
        y.update(0, 9, 15, false);
        due("ack", y.open(0, 0, 0, 9), 0);
    }

    private static void promise7() {
        chapter("Promise 7");
        TwinLedgers x = opened(4, false);
        due("no ledger", x.close(NO_LEDGER, 0), -1);
        due("no ledger", x.close(-1, 0), -1);
        due("no end", x.close(0, NO_END), -1);
        due("no end", x.close(0, -1), -1);
        due("NONE", x.close(0, 1), -2);
        x.init(0, 1, false);
        due("INIT", x.close(0, 1), -2);
        x.round();
        x.attempt(1, 1, false, 4);
        due("TRY", x.close(1, 1), -2);
        due("close", x.close(0, 0), 0);
        due("state", x.end(0, 0, 0), 4);
        due("the other one's", x.end(1, 0, 0), 3);
        due("close again", x.close(0, 0), -2);
    }

    private static void promise8() {
        chapter("Promise 8");
        TwinLedgers x = new TwinLedgers(4);
        due("NONE", x.send(0, 0, 0, 0, 1), -2);
        openChannel(x, 0, false);
        due("no ledger", x.send(NO_LEDGER, 0, 0, 0, 1), -1);
        due("no end", x.send(0, NO_END, 0, 0, 1), -1);
        due("who 16", x.send(0, 0, 16, 0, 1), -1);
        due("who -1", x.send(0, 0, -1, 0, 1), -1);
        due("kind 1", x.send(0, 0, 0, 1, 1), -1);
        due("kind -1", x.send(0, 0, 0, -1, 1), -1);
        due("amount 0", x.send(0, 0, 0, 0, 0), -1);
        due("amount 1001", x.send(0, 0, 0, 0, 1001), -1);
        due("WRONG before STATE", x.send(0, 1, 0, 0, 0), -1);
        due("kind before STATE", x.send(0, 1, 0, 1, 1), -1);
        due("sent", x.end(0, 0, 2), 0);
        due("all of it", x.send(0, 0, 15, 0, 1000), 1);
        due("balance", x.balance(0, 3, 0), 0);
        due("poor", x.send(0, 0, 12, 0, 1), -7);
        due("STATE before POOR", x.send(0, 1, 12, 0, 1), -2);
        due("from 1 to 2", x.send(0, 0, 6, 0, 300), 2);
        due("balance", x.balance(0, 1, 0), 700);
        due("balance of 2", x.balance(0, 2, 0), 1000);
        due("poor by one", x.send(0, 0, 4, 0, 701), -7);
        due("escrow", x.escrow(0, 0, 0), 1300);
        for (int s = 3; s <= 12; s++) {
            due("packet " + s, x.send(0, 0, 0, 0, 1), s);
        }
        due("a 13th", x.send(0, 0, 0, 0, 1), -7);
        due("sent", x.end(0, 0, 2), 12);
        due("balance", x.balance(0, 0, 0), 990);
        due("the other side's first", x.send(1, 0, 0, 0, 1), 1);
        x.close(0, 0);
        due("CLOSED", x.send(0, 0, 0, 0, 1), -2);
    }

    private static void promise8GoingBack() {
        TwinLedgers x = opened(16, false);
        openChannel(x, 1, false);
        x.send(0, 0, 0, 0, 100);
        x.round();
        due("voucher", x.balance(1, 0, 1), 100);
        due("more than there is", x.send(1, 0, 0, 1, 101), -7);
        due("of a user without", x.send(1, 0, 4, 1, 1), -7);
        due("kind 2", x.send(1, 0, 0, 2, 1), -1);
        due("back", x.send(1, 0, 0, 1, 30), 1);
        due("no escrow when it goes back", x.escrow(1, 0, 1), 0);
        due("on by another channel", x.send(1, 1, 0, 1, 50), 1);
        due("escrow when it goes on", x.escrow(1, 1, 1), 50);
        due("balance", x.balance(1, 0, 1), 20);
    }

    private static void promise9() {
        chapter("Promise 9");
        TwinLedgers x = opened(4, false);
        due("no packet yet", x.receive(1, 0, 1, 3, false), -1);
        x.send(0, 0, 1, 0, 100);
        x.send(0, 0, 7, 0, 200);
        due("no ledger", x.receive(NO_LEDGER, 0, 1, 4, false), -1);
        due("no ledger", x.receive(-1, 0, 1, 4, false), -1);
        due("no end", x.receive(1, NO_END, 1, 4, false), -1);
        due("packet 0", x.receive(1, 0, 0, 4, false), -1);
        due("packet 3", x.receive(1, 0, 3, 4, false), -1);
        due("at the sender", x.receive(0, 0, 1, 4, false), -1);
        due("unknown", x.receive(1, 0, 1, 4, false), -3);
        due("before it was sent", x.receive(1, 0, 1, 3, false), -5);
        publish(x, 0);
        due("false", x.receive(1, 0, 1, 4, true), -5);
        due("nothing came", x.balance(1, 1, 1), 0);
        due("the second first", x.receive(1, 0, 2, 4, false), 2);
        due("not taken, no voucher", x.voucher(1, 1), -1);
        due("taken", x.receive(1, 0, 1, 4, false), 1);
        due("balance", x.balance(1, 1, 1), 100);
        due("next stays at an end without order", x.end(1, 0, 3), 1);
        due("again", x.receive(1, 0, 1, 4, false), -8);
        due("again, not taken", x.receive(1, 0, 2, 4, false), -8);
        due("DONE before UNKNOWN", x.receive(1, 0, 2, 99, false), -8);
        due("balance", x.balance(1, 1, 1), 100);
        x.close(1, 0);
        due("STATE before DONE", x.receive(1, 0, 1, 4, false), -2);
        TwinLedgers y = opened(16, false);
        y.send(0, 0, 1, 0, 100);
        publish(y, 0);
        for (int i = 0; i < 8; i++) {
            y.tick(0);
        }
        due("gone", y.receive(1, 0, 1, 4, false), -4);
    }

    private static void promise9Ordered() {
        TwinLedgers x = opened(16, true);
        x.send(0, 0, 1, 0, 10);
        x.send(0, 0, 3, 0, 20);
        x.send(0, 0, 1, 0, 30);
        int h = publish(x, 0);
        due("second first", x.receive(1, 0, 2, h, false), -8);
        due("next", x.end(1, 0, 3), 1);
        due("first", x.receive(1, 0, 1, h, false), 1);
        due("next", x.end(1, 0, 3), 2);
        due("first again", x.receive(1, 0, 1, h, false), -8);
        due("false", x.receive(1, 0, 2, h, true), -5);
        due("next", x.end(1, 0, 3), 2);
        due("not taken", x.receive(1, 0, 2, h, false), 2);
        due("next after one not taken", x.end(1, 0, 3), 3);
        due("third", x.receive(1, 0, 3, h, false), 1);
        due("balance", x.balance(1, 1, 1), 40);
    }

    private static void promise9Vouchers() {
        TwinLedgers x = opened(16, false);
        openChannel(x, 1, false);
        openChannel(x, 2, false);
        for (int c = 0; c < 3; c++) {
            x.send(0, c, 0, 0, 100);
            x.send(1, c, 0, 0, 100);
        }
        due("six received", x.round(), 6);
        for (int k = 1; k <= 3; k++) {
            due("voucher", x.voucher(0, k), k - 1);
            due("voucher", x.voucher(1, k), k - 1);
        }
        x.send(0, 0, 1, 2, 40);
        x.send(0, 1, 2, 3, 40);
        x.send(0, 2, 1, 1, 40);
        x.send(0, 2, 1, 2, 5);
        x.send(0, 2, 2, 0, 7);
        x.round();
        due("4th voucher", x.voucher(1, 4), 4 * 2);
        due("5th voucher", x.voucher(1, 5), 4 * 3 + 1);
        due("no 6th", x.voucher(1, 6), -1);
        due("balance", x.balance(1, 1, 4), 40);
        due("balance", x.balance(1, 2, 5), 40);
        due("balance of the 6th", x.balance(1, 1, 6), 0);
        due("one that is there takes more", x.balance(1, 2, 3), 7);
        x.round();
        due("6th not taken", x.packet(0, 2, 2), 2);
        due("nor this", x.packet(0, 2, 3), 2);
        due("but this", x.packet(0, 2, 4), 1);
        due("refunded", x.balance(0, 0, 1), 100);
        due("out of the escrow", x.escrow(0, 2, 1), 0);
    }

    private static void promise9Kinds() {
        TwinLedgers x = opened(16, false);
        openChannel(x, 1, false);
        x.send(0, 0, 0, 0, 500);
        x.round();
        x.send(1, 0, 2, 1, 200);
        x.send(1, 0, 3, 1, 100);
        x.send(1, 1, 1, 1, 150);
        x.round();
        due("came back as its base", x.balance(0, 2, 0), 1200);
        due("out of the escrow", x.escrow(0, 0, 0), 300);
        due("user 3 takes nothing", x.balance(0, 3, 0), 1000);
        due("voucher of a voucher", x.voucher(0, 1), 4 * 1 + 1);
        due("balance", x.balance(0, 1, 1), 150);
        x.send(0, 1, 4, 1, 150);
        x.round();
        due("it comes back as kind 1", x.balance(1, 0, 1), 50 + 100 + 150);
        due("escrow", x.escrow(1, 1, 1), 0);
    }

    private static void promise9Late() {
        TwinLedgers x = opened(2, false);
        x.send(0, 0, 0, 0, 1);
        publish(x, 0);
        due("limit", x.limit(0, 0, 1), 5);
        x.tick(1);
        due("height 4", x.height(1), 4);
        TwinLedgers y = opened(2, false);
        y.send(0, 0, 0, 0, 1);
        publish(y, 0);
        y.tick(1);
        y.tick(1);
        due("the limit is reached", y.receive(1, 0, 1, 4, false), -9);
        due("LATE before the proof", y.receive(1, 0, 1, 99, true), -9);
        due("just in time", x.receive(1, 0, 1, 4, false), 1);
        x.tick(1);
        due("LATE before DONE", x.receive(1, 0, 1, 4, false), -9);
        y.close(1, 0);
        due("STATE before LATE", y.receive(1, 0, 1, 4, false), -2);
    }

    private static void promise10() {
        chapter("Promise 10");
        TwinLedgers x = opened(16, false);
        due("no packet", x.acknowledge(0, 0, 1, 3), -1);
        x.send(0, 0, 1, 0, 100);
        x.send(0, 0, 3, 0, 200);
        due("no ledger", x.acknowledge(NO_LEDGER, 0, 1, 3), -1);
        due("no end", x.acknowledge(0, NO_END, 1, 3), -1);
        due("packet 0", x.acknowledge(0, 0, 0, 3), -1);
        due("packet 3", x.acknowledge(0, 0, 3, 3), -1);
        due("at the receiver", x.acknowledge(1, 0, 1, 3), -1);
        due("no answer yet, before UNKNOWN", x.acknowledge(0, 0, 1, 99), -5);
        int h = publish(x, 0);
        x.receive(1, 0, 1, h, false);
        x.receive(1, 0, 2, h, false);
        due("unknown", x.acknowledge(0, 0, 1, 99), -3);
        due("a state before the answer", x.acknowledge(0, 0, 1, 3), -5);
        int g = publish(x, 1);
        due("the second first", x.acknowledge(0, 0, 2, g), 2);
        due("refunded", x.balance(0, 0, 0), 900);
        due("out of the escrow", x.escrow(0, 0, 0), 100);
        due("next stays", x.end(0, 0, 4), 1);
        due("fate", x.packet(0, 0, 2), 2);
        due("taken", x.acknowledge(0, 0, 1, g), 1);
        due("not refunded", x.balance(0, 0, 0), 900);
        due("escrow", x.escrow(0, 0, 0), 100);
        due("again", x.acknowledge(0, 0, 1, g), -8);
        due("again", x.acknowledge(0, 0, 2, g), -8);
        due("DONE before UNKNOWN", x.acknowledge(0, 0, 2, 99), -8);
        x.close(0, 0);
        due("STATE before DONE", x.acknowledge(0, 0, 2, g), -2);
    }

    private static void promise10Ordered() {
        TwinLedgers x = opened(16, true);
        for (int s = 1; s <= 12; s++) {
            x.send(0, 0, s == 2 ? 3 : 1, 0, 10);
        }
        int h = publish(x, 0);
        for (int s = 1; s <= 12; s++) {
            x.receive(1, 0, s, h, false);
        }
        due("next to be received", x.end(1, 0, 3), 13);
        int g = publish(x, 1);
        due("the second first", x.acknowledge(0, 0, 2, g), -8);
        due("the first", x.acknowledge(0, 0, 1, g), 1);
        due("next", x.end(0, 0, 4), 2);
        due("the third", x.acknowledge(0, 0, 3, g), -8);
        due("the second", x.acknowledge(0, 0, 2, g), 2);
        due("next", x.end(0, 0, 4), 3);
        for (int s = 3; s <= 12; s++) {
            due("packet " + s, x.acknowledge(0, 0, s, g), 1);
        }
        due("next", x.end(0, 0, 4), 13);
        due("balance", x.balance(0, 0, 0), 890);
        due("escrow", x.escrow(0, 0, 0), 110);
        due("a 13th to receive", x.receive(1, 0, 13, h, false), -1);
    }

    private static void promise10Proof() {
        TwinLedgers x = opened(16, false);
        x.send(0, 0, 1, 0, 100);
        int h = publish(x, 0);
        x.receive(1, 0, 1, h, false);
        int g = publish(x, 1);
        for (int i = 0; i < 8; i++) {
            x.tick(1);
        }
        due("gone", x.acknowledge(0, 0, 1, g), -4);
        due("not settled", x.packet(0, 0, 1), 0);
        g = publish(x, 1);
        due("by a newer one", x.acknowledge(0, 0, 1, g), 1);
        openChannel(x, 1, true);
        x.send(0, 1, 3, 0, 100);
        x.close(1, 1);
        due("no answer, the end open", x.acknowledge(0, 1, 1, g), -5);
        x.close(0, 1);
        due("STATE before PROOF", x.acknowledge(0, 1, 1, g), -2);
    }

    private static void promise11() {
        chapter("Promise 11");
        TwinLedgers x = opened(2, false);
        due("no packet", x.timeout(0, 0, 1, 5, false), -1);
        x.send(0, 0, 1, 0, 100);
        x.send(0, 0, 1, 0, 50);
        due("no ledger", x.timeout(NO_LEDGER, 0, 1, 5, false), -1);
        due("no end", x.timeout(0, NO_END, 1, 5, false), -1);
        due("packet 0", x.timeout(0, 0, 0, 5, false), -1);
        due("packet 3", x.timeout(0, 0, 3, 5, false), -1);
        due("at the receiver", x.timeout(1, 0, 1, 5, false), -1);
        int h = publish(x, 0);
        due("received", x.receive(1, 0, 2, h, false), 1);
        publish(x, 1);
        due("below the limit", x.timeout(0, 0, 1, 4, false), -9);
        due("LATE before UNKNOWN", x.timeout(0, 0, 1, -99, false), -9);
        due("unknown", x.timeout(0, 0, 1, 5, false), -3);
        publish(x, 1);
        due("received in time", x.timeout(0, 0, 2, 5, false), -5);
        due("at the limit", x.timeout(0, 0, 1, 5, false), 0);
        due("refunded", x.balance(0, 0, 0), 950);
        due("out of the escrow", x.escrow(0, 0, 0), 50);
        due("fate", x.packet(0, 0, 1), 3);
        due("the end stays open", x.end(0, 0, 0), 3);
        due("again", x.timeout(0, 0, 1, 5, false), -8);
        due("DONE before LATE", x.timeout(0, 0, 1, 1, false), -8);
        due("acknowledge it", x.acknowledge(0, 0, 1, 5), -8);
        due("the other one", x.acknowledge(0, 0, 2, 5), 1);
        due("settled by an answer", x.timeout(0, 0, 2, 5, false), -8);
        x.send(0, 0, 1, 0, 10);
        int g = publish(x, 1);
        due("the limit of the third", x.limit(0, 0, 3), 7);
        g = publish(x, 1);
        for (int i = 0; i < 8; i++) {
            x.tick(1);
        }
        due("gone", x.timeout(0, 0, 3, g, false), -4);
        x.close(0, 0);
        g = publish(x, 1);
        due("at a closed end", x.timeout(0, 0, 3, g, false), 0);
        due("balance", x.balance(0, 0, 0), 950);
    }

    private static void promise11Ordered() {
        TwinLedgers x = opened(2, true);
        for (int s = 1; s <= 4; s++) {
            x.send(0, 0, 1, 0, 10);
        }
        int h = publish(x, 0);
        x.receive(1, 0, 1, h, false);
        x.receive(1, 0, 2, h, false);
        publish(x, 1);
        publish(x, 1);
        due("below the limit", x.timeout(0, 0, 3, 4, false), -9);
        due("received, before UNKNOWN", x.timeout(0, 0, 1, 99, false), -5);
        due("received", x.timeout(0, 0, 2, 5, false), -5);
        due("unknown", x.timeout(0, 0, 3, 99, false), -3);
        due("not the next one", x.timeout(0, 0, 4, 5, false), 0);
        due("closed", x.end(0, 0, 0), 4);
        due("order", x.end(0, 0, 1), 1);
        due("the other side stays", x.end(1, 0, 0), 3);
        due("next to be acknowledged stays", x.end(0, 0, 4), 1);
        due("refunded", x.balance(0, 0, 0), 970);
        due("the next one, at a closed end", x.timeout(0, 0, 3, 5, false), 0);
        due("acknowledge at a closed end", x.acknowledge(0, 0, 1, 5), -2);
        due("balance", x.balance(0, 0, 0), 980);
        due("escrow", x.escrow(0, 0, 0), 20);
    }

    private static void promise11ForClose() {
        TwinLedgers x = opened(16, false);
        x.send(0, 0, 1, 0, 10);
        x.send(0, 0, 1, 0, 20);
        int h = publish(x, 0);
        x.receive(1, 0, 1, h, false);
        due("not closed", x.timeout(0, 0, 2, 3, true), -5);
        x.close(1, 0);
        due("not known", x.timeout(0, 0, 2, 4, true), -3);
        due("a height below 0", x.timeout(0, 0, 2, -4, true), -3);
        int g = publish(x, 1);
        due("without close it is early", x.timeout(0, 0, 2, g, false), -9);
        due("received", x.timeout(0, 0, 1, g, true), -5);
        due("before it closed", x.timeout(0, 0, 2, 3, true), -5);
        due("for close", x.timeout(0, 0, 2, g, true), 0);
        due("fate", x.packet(0, 0, 2), 3);
        due("the end stays open", x.end(0, 0, 0), 3);
        due("again", x.timeout(0, 0, 2, g, true), -8);
        due("the other by its answer", x.acknowledge(0, 0, 1, g), 1);
        due("balance", x.balance(0, 0, 0), 990);
        x.send(0, 0, 1, 0, 5);
        for (int i = 0; i < 8; i++) {
            x.tick(1);
        }
        due("gone", x.timeout(0, 0, 3, g, true), -4);
        TwinLedgers y = opened(1, false);
        y.send(0, 0, 1, 0, 10);
        publish(y, 1);
        publish(y, 1);
        due("for close, the other open, the limit reached", y.timeout(0, 0, 1, 5, true), -5);
        due("not for close", y.timeout(0, 0, 1, 5, false), 0);
    }

    private static void promise11OrderedForClose() {
        TwinLedgers x = opened(16, true);
        x.send(0, 0, 1, 0, 10);
        x.send(0, 0, 1, 0, 20);
        int h = publish(x, 0);
        x.receive(1, 0, 1, h, false);
        due("the end's proof comes first", x.timeout(0, 0, 1, 99, true), -3);
        due("not closed", x.timeout(0, 0, 2, 3, true), -5);
        x.close(1, 0);
        int g = publish(x, 1);
        due("received", x.timeout(0, 0, 1, g, true), -5);
        due("for close", x.timeout(0, 0, 2, g, true), 0);
        due("closed", x.end(0, 0, 0), 4);
        due("fate", x.packet(0, 0, 2), 3);
        due("balance", x.balance(0, 0, 0), 990);
        TwinLedgers y = opened(1, true);
        y.send(1, 0, 1, 0, 10);
        y.send(1, 0, 1, 0, 10);
        int first = y.height(0);
        due("limit", y.limit(1, 0, 1), 4);
        h = publish(y, 1);
        due("received", y.receive(0, 0, 1, h, false), 1);
        due("a state before it, early", y.timeout(1, 0, 2, first, false), -9);
        y.close(0, 0);
        publish(y, 0);
        due("the number has changed since", y.timeout(1, 0, 2, first, true), -5);
    }

    private static void promise11GoingBack() {
        TwinLedgers x = opened(2, false);
        x.send(0, 0, 0, 0, 100);
        x.round();
        x.send(1, 0, 0, 1, 60);
        due("sent back", x.balance(1, 0, 1), 40);
        int limit = x.limit(1, 0, 1);
        int h = publish(x, 0);
        while (h < limit) {
            h = publish(x, 0);
        }
        due("timed out", x.timeout(1, 0, 1, h, false), 0);
        due("refunded", x.balance(1, 0, 1), 100);
        due("no escrow touched", x.escrow(1, 0, 1), 0);
        due("nor the other's", x.escrow(0, 0, 0), 100);
    }

    private static void promise12() {
        chapter("Promise 12");
        TwinLedgers x = new TwinLedgers(2);
        due("an empty round", x.round(), 0);
        due("height 0", x.height(0), 1);
        due("height 1", x.height(1), 1);
        due("knows", x.knows(0, 1), true);
        due("knows", x.knows(1, 1), true);
        x.tick(1);
        x.round();
        due("the other's newest", x.knows(0, 3), true);
        due("not the ones between", x.knows(0, 2), false);
        due("the other's newest", x.knows(1, 2), true);
        due("not its own height", x.knows(1, 3), false);
        openChannel(x, 0, false);
        openChannel(x, 1, true);
        x.send(0, 0, 1, 0, 10);
        x.send(0, 0, 3, 0, 10);
        x.send(0, 1, 1, 0, 10);
        x.send(0, 1, 1, 0, 10);
        x.send(1, 0, 1, 0, 10);
        due("received, taken or not", x.round(), 5);
        due("fates", x.packet(0, 0, 1), 0);
        due("acknowledged", x.round(), 5);
        due("fate", x.packet(0, 0, 2), 2);
        due("fate", x.packet(0, 1, 2), 1);
        due("fate", x.packet(1, 0, 1), 1);
        due("nothing left", x.round(), 0);
        x.send(0, 0, 1, 0, 10);
        x.send(0, 1, 1, 0, 10);
        x.send(0, 1, 1, 0, 10);
        x.tick(1);
        due("limit passes within the round", x.round(), 3);
        due("timed out", x.packet(0, 0, 3), 3);
        due("timed out", x.packet(0, 1, 3), 3);
        due("timed out though closed", x.packet(0, 1, 4), 3);
        due("closed", x.end(0, 1, 0), 4);
        due("not closed too", x.end(1, 1, 0), 3);
    }

    /** Vouchers get their numbers in the order in which a round receives. */
    private static void promise12Order() {
        TwinLedgers x = opened(16, false);
        openChannel(x, 1, false);
        openChannel(x, 2, false);
        x.send(0, 2, 0, 0, 1);
        x.send(0, 1, 0, 0, 1);
        x.send(0, 1, 0, 0, 1);
        x.send(1, 0, 0, 0, 1);
        due("received", x.round(), 4);
        due("end 1 before end 2", x.voucher(1, 1), 1);
        due("end 2 after it", x.voucher(1, 2), 2);
        due("ledger 0", x.voucher(0, 1), 0);
        x.close(1, 1);
        x.send(0, 1, 0, 0, 1);
        due("acknowledged, none timed out for close", x.round(), 4);
        due("not timed out", x.packet(0, 1, 3), 0);
    }

    private static void promise13() {
        chapter("Promise 13");
        TwinLedgers x = new TwinLedgers(4);
        x.tick(1);
        x.tick(1);
        due("height 0", x.height(0), 0);
        due("height 1", x.height(1), 2);
        due("no ledger", x.height(NO_LEDGER), -1);
        due("no ledger", x.height(-1), -1);
    }

    private static void promise14() {
        chapter("Promise 14");
        TwinLedgers x = new TwinLedgers(4);
        due("no height", x.root(0, 1), 0);
        x.tick(0);
        due("no keys", x.root(0, 1), 0);
        x.init(0, 1, false);
        due("the state of then", x.root(0, 1), 0);
        x.tick(0);
        int one = rootOf(4097, 2);
        due("one key", x.root(0, 2), one);
        x.init(0, 0, true);
        x.tick(0);
        due("three keys", x.root(0, 3), rootOf(4096, 3, 4097, 2, 8192, 1));
        x.init(0, 2, true);
        x.tick(0);
        int five = rootOf(4096, 3, 4097, 2, 4098, 3, 8192, 1, 8194, 1);
        due("five keys", x.root(0, 4), five);
        due("the other ledger", x.root(1, 1), 0);
        due("no ledger", x.root(NO_LEDGER, 1), 0);
        due("no ledger", x.root(-1, 1), 0);
        due("height 0", x.root(0, 0), 0);
        due("height -4", x.root(0, -4), 0);
        due("not yet", x.root(0, 5), 0);
        for (int h = 5; h <= 9; h++) {
            x.tick(0);
        }
        due("the eighth last is kept", x.root(0, 2), one);
        x.tick(0);
        due("it is kept no more", x.root(0, 2), 0);
        due("the next one is", x.root(0, 3), rootOf(4096, 3, 4097, 2, 8192, 1));
        due("again", x.root(0, 10), five);
    }

    private static void promise14Packets() {
        TwinLedgers x = opened(16, false);
        openChannel(x, 2, true);
        int limit = 6 + 16;
        x.send(0, 0, 1, 0, 100);
        x.send(0, 0, 7, 0, 33);
        x.send(0, 2, 2, 0, 44);
        x.round();
        due("prints", x.root(0, 7), rootOf(4096, 6, 4098, 7, 8194, 1,
                12289, print(0, 100, 1, limit, 0), 12290, print(0, 33, 7, limit, 0),
                12288 + 128 + 1, print(0, 44, 2, limit, 0)));
        x.send(1, 0, 4, 1, 60);
        x.send(1, 2, 8, 2, 4);
        x.send(1, 2, 8, 1, 3);
        due("poor", x.end(1, 2, 2), 1);
        x.round();
        due("prints of what goes back, receipts and answers", x.root(1, 8), rootOf(4096, 6, 4098, 7,
                8194, 2, 12289, print(1, 60, 4, 7 + 16, 1), 12417, print(2, 4, 8, 7 + 16, 1),
                16385, 1, 16386, 1, 20481, 1, 20482, 2, 20480 + 128 + 1, 1));
        x.round();
        due("settled", x.root(0, 9), rootOf(4096, 6, 4098, 7, 8194, 2, 16385, 1, 20481, 1,
                20480 + 129, 1));
        x.close(0, 2);
        x.send(0, 0, 1, 0, 1);
        x.tick(0);
        due("closed", x.root(0, 10), rootOf(4096, 6, 4098, 9, 8194, 2, 12291,
                print(0, 1, 1, 9 + 16, 0), 16385, 1, 20481, 1, 20480 + 129, 1));
    }

    private static void promise15() {
        chapter("Promise 15");
        TwinLedgers x = new TwinLedgers(4);
        x.tick(0);
        x.tick(0);
        x.update(1, 2, 15, false);
        due("knows", x.knows(1, 2), true);
        due("not the one before", x.knows(1, 1), false);
        due("the other client", x.knows(0, 2), false);
        due("height 0", x.knows(1, 0), false);
        due("height -2", x.knows(1, -2), false);
        due("height 3", x.knows(1, 3), false);
        due("no ledger", x.knows(NO_LEDGER, 2), false);
        due("no ledger", x.knows(-1, 2), false);
        for (int i = 0; i < 9; i++) {
            x.tick(0);
        }
        due("it is known though the state is gone", x.knows(1, 2), true);
    }

    private static void promise16() {
        chapter("Promise 16");
        TwinLedgers x = opened(16, true);
        due("no what", x.end(0, 0, 5), -1);
        due("no what", x.end(0, 0, -1), -1);
        due("no ledger", x.end(NO_LEDGER, 0, 0), -1);
        due("no ledger", x.end(-1, 0, 0), -1);
        due("no end", x.end(0, NO_END, 0), -1);
        due("no end", x.end(0, -1, 0), -1);
        x.send(0, 0, 1, 0, 1);
        x.send(0, 0, 1, 0, 1);
        x.round();
        int[] sender = {3, 1, 2, 1, 1};
        int[] receiver = {3, 1, 0, 3, 1};
        for (int what = 0; what < 5; what++) {
            due("sender " + what, x.end(0, 0, what), sender[what]);
            due("receiver " + what, x.end(1, 0, what), receiver[what]);
        }
        x.round();
        due("acknowledged", x.end(0, 0, 4), 3);
        due("another end", x.end(0, 1, 2), 0);
    }

    private static void promise17() {
        chapter("Promise 17");
        TwinLedgers x = opened(2, false);
        x.send(0, 0, 1, 0, 1);
        x.send(0, 0, 3, 0, 1);
        due("sent", x.packet(0, 0, 1), 0);
        x.round();
        due("received", x.packet(0, 0, 1), 0);
        x.round();
        due("taken", x.packet(0, 0, 1), 1);
        due("not taken", x.packet(0, 0, 2), 2);
        x.send(0, 0, 1, 0, 1);
        x.tick(1);
        x.round();
        due("timed out", x.packet(0, 0, 3), 3);
        due("packet 0", x.packet(0, 0, 0), -1);
        due("packet 4", x.packet(0, 0, 4), -1);
        due("another end", x.packet(0, 1, 1), -1);
        due("the other ledger", x.packet(1, 0, 1), -1);
        due("no ledger", x.packet(NO_LEDGER, 0, 1), -1);
        due("no end", x.packet(0, NO_END, 1), -1);
    }

    private static void promise18() {
        chapter("Promise 18");
        TwinLedgers x = opened(5, false);
        x.send(0, 0, 1, 0, 1);
        due("limit", x.limit(0, 0, 1), 3 + 5);
        x.tick(1);
        x.tick(1);
        x.send(0, 0, 1, 0, 1);
        due("what it knows, not what is", x.limit(0, 0, 2), 3 + 5);
        x.update(0, 5, 15, false);
        x.update(0, 4, 15, false);
        x.send(0, 0, 1, 0, 1);
        due("the greatest, not the last", x.limit(0, 0, 3), 5 + 5);
        due("the first as before", x.limit(0, 0, 1), 3 + 5);
        x.round();
        x.round();
        due("of a settled one", x.limit(0, 0, 1), 3 + 5);
        due("packet 0", x.limit(0, 0, 0), -1);
        due("packet 4", x.limit(0, 0, 4), -1);
        due("no ledger", x.limit(NO_LEDGER, 0, 1), -1);
        due("no end", x.limit(0, NO_END, 1), -1);
        due("the other ledger", x.limit(1, 0, 1), -1);
    }

    private static void promise19() {
        chapter("Promise 19");
        TwinLedgers x = opened(16, false);
        x.send(0, 0, 1, 0, 400);
        x.round();
        due("sender", x.balance(0, 0, 0), 600);
        due("same user, other ledger", x.balance(1, 0, 0), 1000);
        due("voucher", x.balance(1, 1, 1), 400);
        due("voucher of another", x.balance(1, 0, 1), 0);
        due("no kind", x.balance(1, 1, 2), 0);
        due("no kind", x.balance(1, 1, 6), 0);
        due("no kind", x.balance(1, 1, -1), 0);
        due("no user", x.balance(1, 4, 0), 0);
        due("no user", x.balance(1, -1, 0), 0);
        due("no ledger", x.balance(NO_LEDGER, 0, 0), 0);
        due("no ledger", x.balance(-1, 0, 0), 0);
    }

    private static void promise20() {
        chapter("Promise 20");
        TwinLedgers x = opened(16, false);
        openChannel(x, 1, false);
        x.send(0, 0, 1, 0, 400);
        x.send(0, 1, 1, 0, 30);
        due("end 0", x.escrow(0, 0, 0), 400);
        due("end 1", x.escrow(0, 1, 0), 30);
        due("end 2", x.escrow(0, 2, 0), 0);
        due("the other ledger", x.escrow(1, 0, 0), 0);
        x.round();
        x.send(1, 1, 4, 1, 25);
        due("of a voucher", x.escrow(1, 1, 1), 25);
        due("no kind", x.escrow(0, 0, 1), 0);
        due("no kind", x.escrow(0, 0, 6), 0);
        due("no kind", x.escrow(0, 0, -1), 0);
        due("no end", x.escrow(0, NO_END, 0), 0);
        due("no end", x.escrow(0, -1, 0), 0);
        due("no ledger", x.escrow(NO_LEDGER, 0, 0), 0);
    }

    private static void promise21() {
        chapter("Promise 21");
        TwinLedgers x = opened(16, false);
        openChannel(x, 2, false);
        x.send(0, 2, 1, 0, 100);
        x.round();
        due("base 0 by 2", x.voucher(1, 1), 2);
        x.send(1, 0, 4, 1, 50);
        x.send(0, 2, 1, 0, 100);
        x.round();
        due("base 1 by 0", x.voucher(0, 1), 4);
        due("the same again makes none", x.voucher(1, 2), -1);
        due("it adds up", x.balance(1, 1, 1), 150);
        due("voucher 0", x.voucher(1, 0), -1);
        due("voucher -1", x.voucher(1, -1), -1);
        due("voucher 6", x.voucher(1, 6), -1);
        due("no ledger", x.voucher(NO_LEDGER, 1), -1);
        due("no ledger", x.voucher(-1, 1), -1);
    }

    /** Numbers far from all sense are answered, never thrown at, and change nothing. */
    private static void oddNumbers() {
        chapter("Odd numbers");
        for (int odd : ODD_NUMBERS) {
            TwinLedgers x = opened(16, true);
            x.send(0, 0, 1, 0, 10);
            x.round();
            oddLedgersAndEnds(x, odd);
            due("update", x.update(0, odd, 15, false), -1);
            due("attempt", x.attempt(0, 1, true, odd), -3);
            due("open", x.open(0, 0, 2, odd), -3);
            due("send", x.send(0, 0, odd, 0, 1), -1);
            due("send", x.send(0, 0, 0, odd, 1), -1);
            due("receive", x.receive(1, 0, odd, 4, false), -1);
            due("acknowledge", x.acknowledge(0, 0, odd, 4), -1);
            due("acknowledge at", x.acknowledge(0, 0, 1, odd), -3);
            due("timeout", x.timeout(0, 0, odd, 4, true), -1);
            due("timeout at", x.timeout(0, 0, 1, odd, true), -3);
            due("root", x.root(0, odd), 0);
            due("knows", x.knows(0, odd), false);
            due("end", x.end(0, 0, odd), -1);
            due("packet", x.packet(0, 0, odd), -1);
            due("limit", x.limit(0, 0, odd), -1);
            due("balance", x.balance(0, odd, 0) + x.balance(0, 0, odd), 0);
            due("escrow", x.escrow(0, 0, odd), 0);
            due("voucher", x.voucher(1, odd), -1);
            due("the round after it", x.round(), 1);
        }
    }

    private static void oddLedgersAndEnds(TwinLedgers x, int odd) {
        due("tick", x.tick(odd), -1);
        due("update", x.update(odd, 1, 15, false), -1);
        due("height", x.height(odd), -1);
        due("root", x.root(odd, 1), 0);
        due("knows", x.knows(odd, 1), false);
        due("balance", x.balance(odd, 0, 0), 0);
        due("voucher", x.voucher(odd, 1), -1);
        for (int turn = 0; turn < 2; turn++) {
            int l = turn == 0 ? odd : 0;
            int c = turn == 0 ? 0 : odd;
            due("init", x.init(l, c, true), -1);
            due("attempt", x.attempt(l, c, true, 1), -1);
            due("open", x.open(l, c, 0, 1), -1);
            due("close", x.close(l, c), -1);
            due("send", x.send(l, c, 0, 0, 1), -1);
            due("receive", x.receive(l, c, 1, 1, false), -1);
            due("acknowledge", x.acknowledge(l, c, 1, 1), -1);
            due("timeout", x.timeout(l, c, 1, 1, true), -1);
            due("end", x.end(l, c, 0), -1);
            due("packet", x.packet(l, c, 1), -1);
            due("limit", x.limit(l, c, 1), -1);
            due("escrow", x.escrow(l, c, 0), 0);
        }
    }
}
