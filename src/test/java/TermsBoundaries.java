import java.util.TreeMap;

/** Ledgers, users, ends, blocks, states, roots, headers and what the store has. */
final class TermsBoundaries extends Bench {
    static void run() {
        chapter("What it is");
        sentence("An object is used for at most 512 calls after it has been made",
                TermsBoundaries::callsUpToThe512th);
        chapter("Terms");
        sentence("LEDGERS 0 and 1.", TermsBoundaries::ledgers);
        sentence("Each has a HEIGHT, 0 at first,", TermsBoundaries::heightAtFirst);
        sentence("USERS 0 .. 3,", TermsBoundaries::users);
        sentence("CHANNEL ENDS 0 .. 2 (end c of the one and end c of the other are one channel),",
                TermsBoundaries::ends);
        sentence("and a STORE: keys with values, both ints.", TermsBoundaries::valuesOfAllSizes);
        sentence("A BLOCK: the height grows by 1; the store as it is then is the ledger's STATE at "
                + "that height.", TermsBoundaries::stateOfThen);
        sentence("A ledger keeps its last 8 states;", TermsBoundaries::lastEightStates);
        sentence("the ROOT of a state, and so of its header, is that of its keys in rising order:",
                TermsBoundaries::risingOrder);
        sentence("MIX (h, x) is g xor (g >>> 15), with g = (h xor x) * 73244475 (wrapping).",
                TermsBoundaries::mixWraps);
        sentence("The root of no keys is 0,", TermsBoundaries::rootOfNoKeys);
        sentence("of one key k with value v MIX (MIX (1, k), v),", TermsBoundaries::rootOfOneKey);
        sentence("of n keys (n above 1) MIX (MIX (2, a), b), where b is the root of the last ones "
                + "and a of the first m ones, m the greatest power of 2 below n.",
                TermsBoundaries::rootsOfManyKeys);
        sentence("A ledger's CLIENT knows headers of the other one: heights with their roots.",
                TermsBoundaries::headersOfTheOtherOne);
        sentence("A header is signed by validators, four of each ledger; those of a set sign only "
                + "what is true.", TermsBoundaries::fourValidators);
        storeSentences();
    }

    private static void storeSentences() {
        sentence("THE STORE of a ledger has, by end c and packet s (1 .. 12):",
                TermsBoundaries::keysOfTheFirstAndTheLast);
        sentence("4096 + c: the end, if it is not NONE: 2 * its state (1 INIT, 2 TRY, 3 OPEN, "
                + "4 CLOSED), + 1 if it is ordered;", TermsBoundaries::keyOfAnEnd);
        sentence("8192 + c: for an ordered end that is not NONE the number of the packet to be "
                + "received next;", TermsBoundaries::keyOfTheNextNumber);
        sentence("12288 + 64 c + s: for a packet that was sent and is not settled its PRINT;",
                TermsBoundaries::keyOfAPrint);
        sentence("16384 + 64 c + s: 1, for a packet received at an end that is not ordered;",
                TermsBoundaries::keyOfAReceipt);
        sentence("20480 + 64 c + s: for a packet received its ANSWER, 1 if it was taken, 2 if not.",
                TermsBoundaries::keyOfAnAnswer);
    }

    private static void callsUpToThe512th() {
        TwinLedgers x = new TwinLedgers(4);
        for (int i = 1; i <= 512; i++) {
            due("tick " + i, x.tick(0), i);
        }
        TwinLedgers y = new TwinLedgers(4);
        y.init(1, 0, true);
        tick(y, 1, 508);
        due("update", y.update(0, 508, ALL, false), 0);
        due("root", y.root(1, 508), rootOf(4096, 3, 8192, 1));
        due("call 512", y.attempt(0, 0, true, 508), 0);
        TwinLedgers z = opened(16, false);
        for (int i = 4; i <= 490; i++) {
            due("round " + i, z.round(), 0);
        }
        due("send", z.send(0, 0, who(0, 1), 0, 7), 1);
        due("limit", z.limit(0, 0, 1), 506);
        due("received", z.round(), 1);
        due("acknowledged", z.round(), 1);
        due("balance", z.balance(1, 1, 1), 7);
        due("height", z.height(1), 492);
        TwinLedgers w = new TwinLedgers(4);
        for (int i = 1; i <= 511; i++) {
            w.round();
        }
        due("knows after 511 rounds", w.knows(1, 511), true);
    }

    private static void ledgers() {
        int[] others = {-1, 2, 3, Integer.MIN_VALUE, Integer.MAX_VALUE};
        for (int l : others) {
            TwinLedgers x = sentBothWays();
            callsOfNoLedger(x, l);
            due("nothing changed by ledger " + l, view(x).equals(view(sentBothWays())), true);
        }
        TwinLedgers x = new TwinLedgers(4);
        due("tick 0", x.tick(0), 1);
        due("tick 1", x.tick(1), 1);
    }

    private static TwinLedgers sentBothWays() {
        TwinLedgers x = opened(16, false);
        x.send(0, 0, who(0, 1), 0, 10);
        x.send(1, 0, who(0, 1), 0, 10);
        x.round();
        return x;
    }

    private static void callsOfNoLedger(TwinLedgers x, int l) {
        String of = " of ledger " + l;
        due("tick" + of, x.tick(l), WRONG);
        due("update" + of, x.update(l, 1, ALL, false), WRONG);
        due("height" + of, x.height(l), WRONG);
        due("root" + of, x.root(l, 3), 0);
        due("knows" + of, x.knows(l, 3), false);
        due("balance" + of, x.balance(l, 0, 0), 0);
        due("voucher" + of, x.voucher(l, 1), WRONG);
        callsOfNoEnd(x, l, 0);
    }

    private static void callsOfNoEnd(TwinLedgers x, int l, int c) {
        String of = " of ledger " + l + ", end " + c;
        due("init" + of, x.init(l, c, false), WRONG);
        due("attempt" + of, x.attempt(l, c, false, 3), WRONG);
        for (int step = 0; step < 3; step++) {
            due("open" + of, x.open(l, c, step, 3), WRONG);
        }
        due("close" + of, x.close(l, c), WRONG);
        due("send" + of, x.send(l, c, 0, 0, 1), WRONG);
        due("receive" + of, x.receive(l, c, 1, 4, false), WRONG);
        due("acknowledge" + of, x.acknowledge(l, c, 1, 4), WRONG);
        due("timeout" + of, x.timeout(l, c, 1, 4, false), WRONG);
        due("timeout for close" + of, x.timeout(l, c, 1, 4, true), WRONG);
        due("end" + of, x.end(l, c, 0), WRONG);
        due("packet" + of, x.packet(l, c, 1), WRONG);
        due("limit" + of, x.limit(l, c, 1), WRONG);
        due("escrow" + of, x.escrow(l, c, 0), 0);
    }

    private static void heightAtFirst() {
        TwinLedgers x = new TwinLedgers(4);
        due("height of 0", x.height(0), 0);
        due("height of 1", x.height(1), 0);
        due("root at 0", x.root(0, 0), 0);
        x.init(0, 0, false);
        due("no state at height 0", x.root(0, 0), 0);
        due("no header of height 0", x.update(1, 0, ALL, false), WRONG);
    }

    private static void users() {
        TwinLedgers x = opened(16, false);
        for (int u = 0; u <= 3; u++) {
            due("send from user " + u, x.send(0, 0, who(u, 0), 0, 1000), u + 1);
            due("what user " + u + " has left", x.balance(0, u, 0), 0);
        }
        due("no user 4 to send", x.send(0, 0, who(4, 0), 0, 1), WRONG);
        due("no user -1 to send", x.send(0, 0, -1, 0, 1), WRONG);
        due("no user 4 to have", x.balance(1, 4, 0), 0);
        due("no user -1 to have", x.balance(1, -1, 0), 0);
    }

    private static void ends() {
        int[] others = {-1, 3, 64, Integer.MIN_VALUE, Integer.MAX_VALUE};
        for (int c : others) {
            TwinLedgers x = sentBothWays();
            callsOfNoEnd(x, 0, c);
            callsOfNoEnd(x, 1, c);
            due("nothing changed by end " + c, view(x).equals(view(sentBothWays())), true);
        }
        for (int c = 0; c <= 2; c++) {
            TwinLedgers x = new TwinLedgers(4);
            due("init of end " + c, x.init(0, c, false), 0);
            publish(x, 0);
            for (int d = 0; d <= 2; d++) {
                due("end " + d + " of the other one", x.attempt(1, d, false, 1), c == d ? 0 : PROOF);
            }
        }
    }

    private static void valuesOfAllSizes() {
        boolean above = false;
        boolean below = false;
        TwinLedgers x = opened(16, false);
        for (int s = 1; s <= 12; s++) {
            due("send", x.send(0, 0, who(0, 1), 0, s), s);
            int value = print(0, s, who(0, 1), 3 + 16, 0);
            above |= value > 0;
            below |= value < 0;
        }
        due("a print above 0 is among them", above, true);
        due("a print below 0 is among them", below, true);
        int h = publish(x, 0);
        for (int s = 1; s <= 12; s++) {
            due("receive " + s, x.receive(1, 0, s, h, false), 1);
        }
    }

    private static void stateOfThen() {
        TwinLedgers x = new TwinLedgers(4);
        due("first block", x.tick(0), 1);
        x.init(0, 0, false);
        due("second block", x.tick(0), 2);
        x.init(0, 1, true);
        due("before the next block", x.root(0, 2), rootOf(4096, 2));
        due("third block", x.tick(0), 3);
        due("state 1", x.root(0, 1), 0);
        due("state 2", x.root(0, 2), rootOf(4096, 2));
        due("state 3", x.root(0, 3), rootOf(4096, 2, 4097, 3, 8193, 1));
        due("the other one's height", x.height(1), 0);
    }

    private static void lastEightStates() {
        TwinLedgers x = new TwinLedgers(4);
        x.init(0, 0, false);
        int root = rootOf(4096, 2);
        for (int h = 1; h <= 20; h++) {
            x.tick(0);
            for (int k = Math.max(0, h - 9); k <= h + 1; k++) {
                boolean kept = k >= 1 && k <= h && k >= h - 7;
                due("at height " + h + " root of " + k, x.root(0, k), kept ? root : 0);
            }
        }
    }

    private static void risingOrder() {
        TwinLedgers x = new TwinLedgers(4);
        x.init(0, 2, true);
        x.init(0, 1, false);
        x.init(0, 0, true);
        dueStore("ends made from the last to the first", x, 0,
                4096, 3, 4097, 2, 4098, 3, 8192, 1, 8194, 1);
        TwinLedgers y = openedAll(16);
        y.send(0, 2, 0, 0, 2);
        y.send(0, 0, 0, 0, 1);
        y.send(0, 2, 0, 0, 3);
        int limit = 9 + 16;
        int h = publish(y, 0);
        due("sent by the last end first", y.root(0, h), rootOf(4096, 6, 4097, 6, 4098, 6,
                12289, print(0, 1, 0, limit, 0), 12417, print(0, 2, 0, limit, 0),
                12418, print(0, 3, 0, limit, 0)));
        y.receive(1, 2, 2, h, false);
        y.receive(1, 0, 1, h, false);
        dueStore("received from the last to the first", y, 1, 4096, 6, 4097, 6, 4098, 6,
                16385, 1, 16384 + 128 + 2, 1, 20481, 1, 20480 + 128 + 2, 1);
    }

    /** The numbers were worked out apart from any Java; their products are far beyond an int. */
    private static void mixWraps() {
        TwinLedgers x = new TwinLedgers(4);
        x.init(0, 0, false);
        due("one key, a root above 0", x.root(0, x.tick(0)), 1866774321);
        x.init(0, 1, false);
        due("two keys, one of them with a root below 0", x.root(0, x.tick(0)), -1142415909);
        TwinLedgers y = new TwinLedgers(4);
        y.init(0, 2, false);
        due("one key, a root below 0", y.root(0, y.tick(0)), -1177133696);
    }

    private static void rootOfNoKeys() {
        TwinLedgers x = new TwinLedgers(4);
        x.tick(0);
        x.tick(1);
        due("root of ledger 0", x.root(0, 1), 0);
        due("root of ledger 1", x.root(1, 1), 0);
    }

    private static void rootOfOneKey() {
        for (int c = 0; c <= 2; c++) {
            TwinLedgers x = new TwinLedgers(4);
            x.init(1, c, false);
            x.tick(1);
            due("end " + c, x.root(1, 1), mix(mix(1, 4096 + c), 2));
        }
    }

    /** Two and three keys by ends alone, then 4 to 100 keys, 8, 9, 16, 17, 32, 33, 65 among them. */
    private static void rootsOfManyKeys() {
        TwinLedgers x = new TwinLedgers(4);
        x.init(0, 0, false);
        x.init(0, 1, false);
        dueStore("two keys", x, 0, 4096, 2, 4097, 2);
        x.init(0, 2, false);
        dueStore("three keys", x, 0, 4096, 2, 4097, 2, 4098, 2);
        TwinLedgers y = opened(16, false);
        openChannel(y, 1, false);
        openChannel(y, 2, true);
        TreeMap<Integer, Integer> store = storeOf(4096, 6, 4097, 6, 4098, 7, 8194, 1);
        for (int c = 0; c < 3; c++) {
            for (int s = 1; s <= 12; s++) {
                y.send(0, c, who(0, 1), 0, s);
                store.put(12288 + 64 * c + s, print(0, s, who(0, 1), 9 + 16, 0));
                dueRoot(y, store);
            }
        }
        receiveSome(y, store, 2, 1, 1);
        receiveSome(y, store, 0, 1, 12);
        receiveSome(y, store, 1, 1, 12);
        receiveSome(y, store, 2, 2, 12);
        due("how many keys at last", store.size(), 100);
    }

    private static void receiveSome(TwinLedgers y, TreeMap<Integer, Integer> store, int c,
            int first, int last) {
        y.update(1, y.height(0), ALL, false);
        for (int s = first; s <= last; s++) {
            y.send(1, c, who(0, 1), 0, 1);
        }
        int h = publish(y, 1);
        for (int s = first; s <= last; s++) {
            due("receive " + s + " at end " + c, y.receive(0, c, s, h, false), 1);
            store.put(20480 + 64 * c + s, 1);
            if (c == 2) {
                store.put(8194, s + 1);
            } else {
                store.put(16384 + 64 * c + s, 1);
            }
            dueRoot(y, store);
        }
    }

    private static void dueRoot(TwinLedgers y, TreeMap<Integer, Integer> store) {
        due("root of " + store.size() + " keys", y.root(0, y.tick(0)), rootOf(store));
    }

    private static void headersOfTheOtherOne() {
        TwinLedgers x = new TwinLedgers(4);
        tick(x, 0, 2);
        due("its own header is none of the other one", x.update(0, 1, ALL, false), WRONG);
        due("the other one's", x.update(1, 2, ALL, false), 0);
        due("knows it", x.knows(1, 2), true);
        due("not the one before it", x.knows(1, 1), false);
        due("the other client knows nothing", x.knows(0, 2), false);
    }

    private static void fourValidators() {
        TwinLedgers x = new TwinLedgers(4);
        x.tick(0);
        due("four", x.update(1, 1, 15, false), 0);
        due("what is not true, signed by four", x.update(1, 1, 15, true), FORGED);
        TwinLedgers y = new TwinLedgers(4);
        y.tick(0);
        due("a fifth is none", y.update(1, 1, 16 + 1 + 2, false), FORGED);
        due("what is not true is not known", y.update(1, 1, 15, true), FORGED);
        due("knows", y.knows(1, 1), false);
    }

    private static void keysOfTheFirstAndTheLast() {
        TwinLedgers x = openedAll(16);
        TreeMap<Integer, Integer> store = storeOf(4096, 6, 4097, 6, 4098, 6);
        for (int s = 1; s <= 12; s++) {
            for (int c = 0; c < 3; c++) {
                x.send(0, c, who(c, 2), 0, s);
                store.put(12288 + 64 * c + s, print(0, s, who(c, 2), 9 + 16, 0));
            }
        }
        int h = publish(x, 0);
        due("all prints", x.root(0, h), rootOf(store));
        for (int c = 0; c < 3; c += 2) {
            due("first", x.receive(1, c, 1, h, false), 1);
            due("last", x.receive(1, c, 12, h, false), 1);
        }
        dueStore("the first and the last received", x, 1, 4096, 6, 4097, 6, 4098, 6,
                16384 + 1, 1, 16384 + 12, 1, 16384 + 129, 1, 16384 + 140, 1,
                20480 + 1, 1, 20480 + 12, 1, 20480 + 129, 1, 20480 + 140, 1);
        due("a packet 0", x.receive(1, 1, 0, h, false), WRONG);
        due("a packet 13", x.receive(1, 1, 13, h, false), WRONG);
    }

    private static void keyOfAnEnd() {
        for (int c = 0; c < 3; c++) {
            TwinLedgers x = new TwinLedgers(4);
            dueStore("NONE", x, 0);
            x.init(0, c, false);
            dueStore("INIT", x, 0, 4096 + c, 2);
            x.update(1, 2, ALL, false);
            x.attempt(1, c, false, 2);
            dueStore("TRY", x, 1, 4096 + c, 4);
            x.update(0, 1, ALL, false);
            x.open(0, c, ACK, 1);
            dueStore("OPEN", x, 0, 4096 + c, 6);
            x.close(0, c);
            dueStore("CLOSED", x, 0, 4096 + c, 8);
        }
        keyOfAnOrderedEnd();
    }

    private static void keyOfAnOrderedEnd() {
        for (int c = 0; c < 3; c++) {
            TwinLedgers x = new TwinLedgers(4);
            x.init(0, c, true);
            dueStore("INIT, ordered", x, 0, 4096 + c, 3, 8192 + c, 1);
            x.update(1, 1, ALL, false);
            x.attempt(1, c, true, 1);
            dueStore("TRY, ordered", x, 1, 4096 + c, 5, 8192 + c, 1);
            x.update(0, 1, ALL, false);
            x.open(0, c, ACK, 1);
            dueStore("OPEN, ordered", x, 0, 4096 + c, 7, 8192 + c, 1);
            x.close(0, c);
            dueStore("CLOSED, ordered", x, 0, 4096 + c, 9, 8192 + c, 1);
        }
    }

    private static void keyOfTheNextNumber() {
        TwinLedgers x = opened(16, true);
        dueStore("none received", x, 1, 4096, 7, 8192, 1);
        TreeMap<Integer, Integer> store = storeOf(4096, 7);
        for (int s = 1; s <= 12; s++) {
            x.send(0, 0, who(0, 1), 0, 1);
        }
        int h = publish(x, 0);
        for (int s = 1; s <= 12; s++) {
            due("receive", x.receive(1, 0, s, h, false), 1);
            store.put(8192, s + 1);
            store.put(20480 + s, 1);
            due("after " + s, x.root(1, x.tick(1)), rootOf(store));
        }
        x.close(1, 0);
        store.put(4096, 9);
        due("it stays when the end is CLOSED", x.root(1, x.tick(1)), rootOf(store));
        TwinLedgers y = opened(16, false);
        dueStore("none for an end that is not ordered", y, 1, 4096, 6);
        TwinLedgers z = new TwinLedgers(4);
        dueStore("none for an end that is NONE", z, 1);
    }

    private static void keyOfAPrint() {
        TwinLedgers x = opened(2, false);
        int limit = 3 + 2;
        x.send(0, 0, who(2, 1), 0, 1000);
        x.send(0, 0, who(1, 3), 0, 1);
        x.send(0, 0, who(0, 0), 0, 5);
        dueStore("sent", x, 0, 4096, 6, 12289, print(0, 1000, 9, limit, 0),
                12290, print(0, 1, 7, limit, 0), 12291, print(0, 5, 0, limit, 0));
        x.update(1, 4, ALL, false);
        x.receive(1, 0, 1, 4, false);
        x.receive(1, 0, 2, 4, false);
        dueStore("received, not settled", x, 0, 4096, 6, 12289, print(0, 1000, 9, limit, 0),
                12290, print(0, 1, 7, limit, 0), 12291, print(0, 5, 0, limit, 0));
        publish(x, 1);
        int h = publish(x, 1);
        due("acknowledge", x.acknowledge(0, 0, 1, h), 1);
        dueStore("settled as taken", x, 0, 4096, 6,
                12290, print(0, 1, 7, limit, 0), 12291, print(0, 5, 0, limit, 0));
        due("acknowledge", x.acknowledge(0, 0, 2, h), 2);
        dueStore("settled as not taken", x, 0, 4096, 6, 12291, print(0, 5, 0, limit, 0));
        due("timeout", x.timeout(0, 0, 3, h, false), 0);
        dueStore("timed out", x, 0, 4096, 6);
    }

    private static void keyOfAReceipt() {
        TwinLedgers x = opened(16, false);
        x.send(0, 0, who(0, 1), 0, 1);
        x.send(0, 0, who(0, 3), 0, 1);
        x.round();
        dueStore("taken or not", x, 1, 4096, 6, 16385, 1, 16386, 1, 20481, 1, 20482, 2);
        x.round();
        dueStore("it stays when they are settled", x, 1,
                4096, 6, 16385, 1, 16386, 1, 20481, 1, 20482, 2);
        TwinLedgers y = opened(16, true);
        y.send(0, 0, who(0, 1), 0, 1);
        y.round();
        dueStore("none at an ordered end", y, 1, 4096, 7, 8192, 2, 20481, 1);
    }

    private static void keyOfAnAnswer() {
        for (boolean ordered : ORDERS) {
            TwinLedgers x = opened(16, ordered);
            TreeMap<Integer, Integer> store = ordered
                    ? storeOf(4096, 7, 8192, 5) : storeOf(4096, 6, 16385, 1, 16386, 1, 16387, 1, 16388, 1);
            for (int to = 0; to < 4; to++) {
                x.send(0, 0, who(0, to), 0, 1);
                store.put(20481 + to, to == 3 ? 2 : 1);
            }
            due("received", x.round(), 4);
            due("answers", x.root(1, x.tick(1)), rootOf(store));
            due("acknowledged", x.round(), 4);
            due("answers stay", x.root(1, x.tick(1)), rootOf(store));
        }
    }
}
