/** Kinds, vouchers, and packets as they are sent. */
final class TokenBoundaries extends Bench {
    static void run() {
        chapter("Terms");
        sentence("TOKENS. A ledger's KIND 0 is its own; each user has 1000 of it at first.",
                TokenBoundaries::thousandAtFirst);
        sentence("A kind from 1 on is a VOUCHER for a BASE, a kind of the other ledger, that came "
                + "by a channel c;", TokenBoundaries::vouchersByBaseAndChannel);
        sentence("vouchers get the numbers 1 .. 5 in the order in which they first come.",
                TokenBoundaries::vouchersByComing);
        sentence("A PACKET from end c has a kind of the sender's ledger, an amount, a user it is "
                + "from and one it is for, and a LIMIT:", TokenBoundaries::partsOfAPacket);
        sentence("the greatest height that the sender's client knows then (0 if none), + PATIENCE.",
                TokenBoundaries::limits);
        sentence("It GOES BACK if its kind is a voucher that came by this c.",
                TokenBoundaries::goesBack);
        sentence("To SEND it: the amount is taken from the user;", TokenBoundaries::takenFromTheUser);
        sentence("if it does not go back, it is put into the end's ESCROW for the kind.",
                TokenBoundaries::putIntoEscrow);
        sentence("Its PRINT is MIX (MIX (MIX (MIX (MIX (3, kind), amount), 4 * from + for), limit), "
                + "back),", TokenBoundaries::prints);
        sentence("back 1 + its base if it goes back, else 0.", TokenBoundaries::printsOfWhatGoesBack);
        sentence("Packets of an end are numbered 1, 2, .., 12.", TokenBoundaries::numbers);
    }

    private static void thousandAtFirst() {
        TwinLedgers x = new TwinLedgers(4);
        for (int l = 0; l < 2; l++) {
            for (int u = 0; u < 4; u++) {
                due("kind 0", x.balance(l, u, 0), 1000);
                for (int kind = 1; kind <= 5; kind++) {
                    due("kind " + kind, x.balance(l, u, kind), 0);
                }
            }
        }
        TwinLedgers y = opened(16, false);
        due("one more than all of it", y.send(0, 0, who(3, 1), 0, 1001), WRONG);
        due("all of it", y.send(0, 0, who(3, 1), 0, 1000), 1);
        due("nothing left", y.balance(0, 3, 0), 0);
        due("the other ledger's kind 0 is another", y.balance(1, 3, 0), 1000);
    }

    private static void vouchersByBaseAndChannel() {
        TwinLedgers x = withFiveVouchers();
        int[] bases = {0, 0, 0, 2, 3};
        int[] channels = {0, 1, 2, 0, 1};
        for (int k = 1; k <= 5; k++) {
            due("voucher " + k, x.voucher(1, k), 4 * bases[k - 1] + channels[k - 1]);
        }
        x.send(0, 0, who(0, 2), 0, 9);
        x.send(0, 1, who(0, 2), 0, 8);
        x.round();
        due("the same base by the same channel", x.balance(1, 2, 1), 9);
        due("the same base by another channel", x.balance(1, 2, 2), 8);
        due("not by the third", x.balance(1, 2, 3), 0);
    }

    private static void vouchersByComing() {
        TwinLedgers x = openedAll(16);
        x.send(0, 2, who(0, 0), 0, 1);
        x.send(0, 0, who(0, 0), 0, 2);
        x.send(0, 0, who(0, 1), 0, 3);
        x.send(0, 1, who(0, 3), 0, 4);
        x.send(0, 1, who(0, 0), 0, 5);
        int h = publish(x, 0);
        due("one that is not taken gets no number", x.receive(1, 1, 1, h, false), 2);
        due("no voucher 1", x.voucher(1, 1), WRONG);
        due("the first", x.receive(1, 2, 1, h, false), 1);
        due("the second, the later packet", x.receive(1, 0, 2, h, false), 1);
        due("the second again", x.receive(1, 0, 1, h, false), 1);
        due("the third", x.receive(1, 1, 2, h, false), 1);
        due("voucher 1", x.voucher(1, 1), 2);
        due("voucher 2", x.voucher(1, 2), 0);
        due("voucher 3", x.voucher(1, 3), 1);
        due("no voucher 4", x.voucher(1, 4), WRONG);
        due("the other ledger has none", x.voucher(0, 1), WRONG);
        TwinLedgers y = withFiveVouchers();
        due("voucher 5", y.voucher(1, 5), 4 * 3 + 1);
        y.send(0, 2, who(0, 1), 1, 1);
        y.round();
        due("no voucher 6", y.voucher(1, 6), WRONG);
    }

    private static void partsOfAPacket() {
        for (int who = 0; who < 16; who++) {
            TwinLedgers x = opened(16, false);
            int from = who / 4;
            int to = who % 4;
            due("send", x.send(0, 0, who, 0, 600 + who), 1);
            due("the user it is from", x.balance(0, from, 0), 400 - who);
            due("received", x.round(), 1);
            for (int u = 0; u < 4; u++) {
                due("user " + u, x.balance(1, u, 1), u == to && to != 3 ? 600 + who : 0);
            }
        }
    }

    /** An end opens by a proof, so that no packet is sent by a ledger that knows nothing: 1 is least. */
    private static void limits() {
        int[] patience = {1, 4, 16};
        for (int p : patience) {
            TwinLedgers x = new TwinLedgers(p);
            x.init(0, 0, false);
            publish(x, 0);
            x.attempt(1, 0, false, 1);
            publish(x, 1);
            x.open(0, 0, ACK, 1);
            due("send", x.send(0, 0, 0, 0, 1), 1);
            due("the least height", x.limit(0, 0, 1), 1 + p);
            tick(x, 1, 3);
            x.send(0, 0, 0, 0, 1);
            due("heights that it does not know", x.limit(0, 0, 2), 1 + p);
            x.update(0, 4, ALL, false);
            x.update(0, 2, ALL, false);
            x.send(0, 0, 0, 0, 1);
            due("the greatest, not the last", x.limit(0, 0, 3), 4 + p);
            due("as it was then", x.limit(0, 0, 1), 1 + p);
            tick(x, 0, 5);
            x.send(0, 0, 0, 0, 1);
            due("its own height counts not", x.limit(0, 0, 4), 4 + p);
        }
    }

    private static void goesBack() {
        TwinLedgers x = withFiveVouchers();
        x.send(1, 0, who(0, 0), 0, 10);
        due("kind 0 goes not back by end 0", x.escrow(1, 0, 0), 110);
        for (int kind = 1; kind <= 3; kind++) {
            for (int c = 0; c < 3; c++) {
                due("send kind " + kind, x.send(1, c, who(0, 0), kind, 7) > 0, true);
                due("kind " + kind + " by end " + c, x.escrow(1, c, kind), kind - 1 == c ? 0 : 7);
            }
        }
        x.send(1, 0, who(1, 0), 4, 7);
        x.send(1, 1, who(1, 0), 4, 7);
        x.send(1, 2, who(1, 0), 4, 7);
        due("kind 4 by end 0", x.escrow(1, 0, 4), 0);
        due("kind 4 by end 1", x.escrow(1, 1, 4), 7);
        due("kind 4 by end 2", x.escrow(1, 2, 4), 7);
        due("received as the base", x.round() > 0, true);
        due("the escrow of the base", x.escrow(0, 0, 2), 40 - 7);
    }

    private static void takenFromTheUser() {
        TwinLedgers x = opened(16, false);
        due("send", x.send(0, 0, who(2, 1), 0, 999), 1);
        due("taken at once", x.balance(0, 2, 0), 1);
        due("not of the user it is for", x.balance(0, 1, 0), 1000);
        due("more than is left", x.send(0, 0, who(2, 1), 0, 2), POOR);
        due("all that is left", x.send(0, 0, who(2, 1), 0, 1), 2);
        due("nothing left", x.balance(0, 2, 0), 0);
        due("nothing to send", x.send(0, 0, who(2, 1), 0, 1), POOR);
        due("the others have theirs", x.balance(0, 3, 0), 1000);
        TwinLedgers y = withFiveVouchers();
        due("more of a voucher than there is", y.send(1, 0, who(0, 1), 1, 101), POOR);
        due("all of a voucher", y.send(1, 0, who(0, 1), 1, 100), 2);
        due("none of it left", y.balance(1, 0, 1), 0);
    }

    private static void putIntoEscrow() {
        TwinLedgers x = openedAll(16);
        x.send(0, 1, who(0, 1), 0, 1000);
        x.send(0, 1, who(1, 1), 0, 1000);
        due("it adds up", x.escrow(0, 1, 0), 2000);
        due("of this end alone", x.escrow(0, 0, 0) + x.escrow(0, 2, 0), 0);
        due("of this ledger alone", x.escrow(1, 1, 0), 0);
        x.round();
        x.send(1, 1, who(1, 1), 1, 1000);
        due("what goes back is not put there", x.escrow(1, 1, 1), 0);
        x.send(1, 0, who(1, 1), 1, 1000);
        due("the same kind by another end is", x.escrow(1, 0, 1), 1000);
    }

    private static void prints() {
        int[] whos = {who(0, 0), who(0, 3), who(1, 1), who(2, 2), who(3, 3)};
        int[] amounts = {1, 2, 999, 1000, 500};
        int[] limits = {19, 19, 19, 20, 20};
        TwinLedgers x = opened(16, false);
        x.tick(1);
        int[] pairs = new int[12];
        pairs[0] = 4096;
        pairs[1] = 6;
        for (int i = 0; i < 5; i++) {
            if (limits[i] == 20) {
                x.update(0, 4, ALL, false);
            }
            due("send", x.send(0, 0, whos[i], 0, amounts[i]), i + 1);
            pairs[2 * i + 2] = 12288 + i + 1;
            pairs[2 * i + 3] = print(0, amounts[i], whos[i], limits[i], 0);
        }
        dueStore("prints", x, 0, pairs);
    }

    private static void printsOfWhatGoesBack() {
        TwinLedgers x = opened(16, false);
        openChannel(x, 1, false);
        x.send(0, 0, who(0, 0), 0, 100);
        due("received", x.round(), 1);
        x.send(1, 1, who(0, 0), 1, 50);
        x.send(1, 0, who(0, 2), 1, 20);
        dueStore("base 0, and the same kind by another channel", x, 1, 4096, 6, 4097, 6,
                12288 + 1, print(1, 20, who(0, 2), 7 + 16, 1),
                12288 + 65, print(1, 50, who(0, 0), 7 + 16, 0), 16385, 1, 20481, 1);
        due("received and acknowledged", x.round(), 3);
        x.round();
        int limit = x.height(1) + 16;
        due("the voucher for a voucher", x.voucher(0, 1), 4 * 1 + 1);
        x.send(0, 1, who(0, 3), 1, 30);
        x.send(0, 0, who(0, 3), 1, 20);
        dueStore("base 1, and the same kind by another channel", x, 0, 4096, 6, 4097, 6,
                12288 + 2, print(1, 20, who(0, 3), limit, 0),
                12288 + 65, print(1, 30, who(0, 3), limit, 2),
                16384 + 1, 1, 16384 + 65, 1, 20480 + 1, 1, 20480 + 65, 1);
    }

    private static void numbers() {
        TwinLedgers x = openedAll(16);
        for (int s = 1; s <= 12; s++) {
            for (int c = 0; c < 3; c++) {
                due("number at end " + c, x.send(0, c, who(0, 1), 0, 1), s);
            }
        }
        for (int c = 0; c < 3; c++) {
            due("a 13th at end " + c, x.send(0, c, who(0, 1), 0, 1), POOR);
            due("how many were sent", x.end(0, c, 2), 12);
        }
        due("the other ledger's first", x.send(1, 0, who(0, 1), 0, 1), 1);
        due("received", x.round(), 37);
        due("acknowledged", x.round(), 37);
        due("no number is free again", x.send(0, 0, who(0, 1), 0, 1), POOR);
        due("nothing was taken for it", x.balance(0, 0, 0), 1000 - 36);
    }
}
