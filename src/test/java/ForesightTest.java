/** Promises 28 to 34: what would be. */
public final class ForesightTest {
    private static final Class<IndexOutOfBoundsException> INDEX = IndexOutOfBoundsException.class;
    private static final Class<IllegalArgumentException> ARGUMENT = IllegalArgumentException.class;

    public static void main(String[] args) {
        promise28LuckIn();
        promise28LuckInWithAnAudit();
        promise28Refused();
        promise29DaysUntilClear();
        promise29DaysUntilClearWithAnAudit();
        promise30DaysUntilUnlucky();
        promises29To32Refused();
        promise31BestPinch();
        promise31BestPinchWithLittleSalt();
        promise31BestPinchWithAFullLedger();
        promise31LooksFourteenDaysAhead();
        promise31KnowsTheAudit();
        promise32BestPenance();
        promise32LooksTwentyDaysAhead();
        promise32KnowsTheAudit();
        promises28To34ChangeNothing();
        promise33MeanLuck();
        promise34Digest();
        Expect.end();
    }

    private static void promise28LuckIn() {
        SaltOrder clear = Orders.withMembers(1);
        Expect.same("luckIn(0, 1) without arrears", clear.luckIn(0, 1), 51);
        Expect.same("luckIn(0, 49) without arrears", clear.luckIn(0, 49), 99);
        Expect.same("luckIn(0, 50) without arrears", clear.luckIn(0, 50), 100);
        Expect.same("luckIn(0, 60) without arrears", clear.luckIn(0, 60), 100);
        SaltOrder owing = Orders.inArrears(12);
        Expect.same("luckIn(0, 1) with 12", owing.luckIn(0, 1), 48);
        Expect.same("luckIn(0, 24) with 12", owing.luckIn(0, 24), 2);
        Expect.same("luckIn(0, 25) with 12", owing.luckIn(0, 25), 0);
        Expect.same("luckIn(0, 60) with 12", owing.luckIn(0, 60), 0);
        SaltOrder eating = Orders.inArrears(8);
        eating.doPenance(0, 4);
        Expect.same("luckIn(0, 4) with 8 and 4 lumps", eating.luckIn(0, 4), 50);
        Expect.same("luckIn(0, 5) with 8 and 4 lumps", eating.luckIn(0, 5), 51);
        eating.pass(5);
        Expect.same("luckOf(0) behind these", eating.luckOf(0), 51);
    }

    private static void promise28LuckInWithAnAudit() {
        SaltOrder order = Orders.withMembers(2);
        order.throwSalt(0, 1, 5);
        order.throwSalt(1, 1, 9);
        Expect.same("luckIn(0, 6)", order.luckIn(0, 6), 56);
        Expect.same("luckIn(0, 7)", order.luckIn(0, 7), 55);
        Expect.same("luckIn(0, 14), audited once", order.luckIn(0, 14), 48);
        Expect.same("luckIn(1, 7)", order.luckIn(1, 7), 54);
        SaltOrder heavy = Orders.inArrears(95);
        heavy.throwSalt(0, 1, 9);
        heavy.pass(6);
        heavy.doPenance(0, 9);
        Expect.same("luckIn(0, 9)", heavy.luckIn(0, 9), 0);
        Expect.same("daysUntilClear(0)", heavy.daysUntilClear(0), -1);
    }

    private static void promise28Refused() {
        SaltOrder order = Orders.withMembers(2);
        Expect.refusedInVain("luckIn(-1, 1)", order, INDEX, () -> order.luckIn(-1, 1));
        Expect.refusedInVain("luckIn(2, 1)", order, INDEX, () -> order.luckIn(2, 1));
        Expect.refusedInVain("luckIn(8, 1)", order, INDEX, () -> order.luckIn(8, 1));
        Expect.refusedInVain("luckIn(2, 0)", order, INDEX, () -> order.luckIn(2, 0));
        Expect.refusedInVain("luckIn(1, 0)", order, ARGUMENT, () -> order.luckIn(1, 0));
        Expect.refusedInVain("luckIn(1, -1)", order, ARGUMENT, () -> order.luckIn(1, -1));
        Expect.refusedInVain("luckIn(1, 61)", order, ARGUMENT, () -> order.luckIn(1, 61));
        Expect.refusedInVain("luckIn(1, MAX)", order, ARGUMENT, () -> order.luckIn(1, Integer.MAX_VALUE));
    }

    private static void promise29DaysUntilClear() {
        Expect.same("daysUntilClear(0) without arrears", Orders.withMembers(1).daysUntilClear(0), 0);
        int[] arrears = {7, 7, 6, 27, 28, 1};
        int[] lumps = {2, 3, 2, 9, 9, 9};
        int[] due = {-1, 3, 2, 9, -1, 1};
        for (int i = 0; i < due.length; i++) {
            SaltOrder order = Orders.inArrears(arrears[i]);
            Expect.same("daysUntilClear(0) without lumps", order.daysUntilClear(0), -1);
            order.doPenance(0, lumps[i]);
            Expect.same("daysUntilClear(0) with " + arrears[i] + " and lumps " + lumps[i],
                    order.daysUntilClear(0), due[i]);
        }
    }

    private static void promise29DaysUntilClearWithAnAudit() {
        SaltOrder order = Orders.inArrears(21);
        order.throwSalt(0, 1, 1);
        order.doPenance(0, 7);
        Expect.same("daysUntilClear(0) with 7 lumps", order.daysUntilClear(0), -1);
        order.doPenance(0, 1);
        Expect.same("daysUntilClear(0) with 8 lumps", order.daysUntilClear(0), 8);
        SaltOrder clear = Orders.withMembers(1);
        clear.throwSalt(0, 1, 1);
        Expect.same("daysUntilClear(0) when clear till the audit", clear.daysUntilClear(0), 0);
    }

    private static void promise30DaysUntilUnlucky() {
        Expect.same("daysUntilUnlucky(0) without arrears", Orders.withMembers(1).daysUntilUnlucky(0), -1);
        Expect.same("daysUntilUnlucky(0) with 1", Orders.inArrears(1).daysUntilUnlucky(0), 50);
        Expect.same("daysUntilUnlucky(0) with 99", Orders.inArrears(99).daysUntilUnlucky(0), 5);
        Expect.same("daysUntilUnlucky(0) with 22", Orders.inArrears(22).daysUntilUnlucky(0), 17);
        SaltOrder sixty = Orders.withMembers(1);
        sixty.pass(10);
        sixty.spill(0, 1);
        Expect.same("daysUntilUnlucky(0) with luck 60", sixty.daysUntilUnlucky(0), 60);
        SaltOrder more = Orders.withMembers(1);
        more.pass(11);
        more.spill(0, 1);
        Expect.same("daysUntilUnlucky(0) with luck 61", more.daysUntilUnlucky(0), -1);
        Expect.same("daysUntilUnlucky(0) without luck", Orders.withLuck(0, 1).daysUntilUnlucky(0), 0);
        SaltOrder eating = Orders.inArrears(99);
        eating.doPenance(0, 3);
        Expect.same("daysUntilUnlucky(0) with 99 and 3 lumps", eating.daysUntilUnlucky(0), 9);
        SaltOrder faulty = Orders.withMembers(1);
        faulty.throwSalt(0, 1, 9);
        Expect.same("daysUntilUnlucky(0) with an audit", faulty.daysUntilUnlucky(0), 34);
    }

    private static void promises29To32Refused() {
        for (int members : new int[] {0, 2, 8}) {
            SaltOrder order = Orders.withMembers(members);
            for (int wrong : new int[] {-1, members, 8, 9, Integer.MIN_VALUE, Integer.MAX_VALUE}) {
                Expect.refusedInVain("daysUntilClear " + wrong, order, INDEX, () -> order.daysUntilClear(wrong));
                Expect.refusedInVain("daysUntilUnlucky " + wrong, order, INDEX, () -> order.daysUntilUnlucky(wrong));
                Expect.refusedInVain("bestPinch " + wrong, order, INDEX, () -> order.bestPinch(wrong));
                Expect.refusedInVain("bestPenance " + wrong, order, INDEX, () -> order.bestPenance(wrong));
            }
        }
        SaltOrder full = Orders.withMembers(1);
        Orders.throwTimes(full, 30, 0, 0, 1);
        Expect.refusedInVain("bestPinch(1) with a full ledger", full, INDEX, () -> full.bestPinch(1));
    }

    private static void promise31BestPinch() {
        int[] arrears = {0, 1, 8, 9, 10, 11, 12, 19, 20, 29, 31, 99};
        int[] due = {0, 1, 8, 9, 0, 1, 2, 9, 0, 9, 1, 0};
        for (int i = 0; i < due.length; i++) {
            Expect.same("bestPinch(0) with " + arrears[i], Orders.inArrears(arrears[i]).bestPinch(0), due[i]);
        }
    }

    private static void promise31BestPinchWithLittleSalt() {
        Expect.same("bestPinch(0) with 8, salt 8", Orders.inArrears(8, 8).bestPinch(0), 8);
        Expect.same("bestPinch(0) with 8, salt 7", Orders.inArrears(8, 7).bestPinch(0), 0);
        Expect.same("bestPinch(0) with 13, salt 3", Orders.inArrears(13, 3).bestPinch(0), 3);
        Expect.same("bestPinch(0) with 13, salt 2", Orders.inArrears(13, 2).bestPinch(0), 0);
        Expect.same("bestPinch(0) with 1, no salt", Orders.inArrears(1, 0).bestPinch(0), 0);
    }

    private static void promise31BestPinchWithAFullLedger() {
        SaltOrder order = Orders.inArrears(8);
        Orders.throwTimes(order, 29, 1, 1, 1);
        Expect.same("bestPinch(0) with 29 throws", order.bestPinch(0), 8);
        order.throwSalt(1, 1, 1);
        Expect.same("bestPinch(0) with 30 throws", order.bestPinch(0), 0);
        order.audit();
        Expect.same("bestPinch(0) behind an audit", order.bestPinch(0), 8);
    }

    private static void promise31LooksFourteenDaysAhead() {
        Expect.same("bestPinch(0) with 11, luck 15", Orders.withLuck(15, 11).bestPinch(0), 1);
        Expect.same("bestPinch(0) with 11, luck 14", Orders.withLuck(14, 11).bestPinch(0), 0);
    }

    /** A pinch too large is a fault in its turn, and what is in the ledger already comes on top. */
    private static void promise31KnowsTheAudit() {
        SaltOrder eating = Orders.inArrears(5);
        eating.doPenance(0, 9);
        Expect.same("bestPinch(0) with 5 and 9 lumps", eating.bestPinch(0), 0);
        SaltOrder faulty = Orders.inArrears(8);
        faulty.throwSalt(0, 1, 2);
        Expect.same("bestPinch(0) with 8 and a fault of 4", faulty.bestPinch(0), 8);
        SaltOrder little = Orders.inArrears(9, 5);
        little.throwSalt(0, 1, 2);
        Expect.same("bestPinch(0) with 9, a fault of 4 and salt 3", little.bestPinch(0), 3);
        SaltOrder later = Orders.inArrears(2);
        later.throwSalt(0, 1, 5);
        Expect.same("bestPinch(0) with 2 and a fault of 10", later.bestPinch(0), 2);
        SaltOrder atOnce = Orders.inArrears(2);
        atOnce.pass(6);
        atOnce.throwSalt(0, 1, 5);
        Expect.same("bestPinch(0) with 2 and 10 of this day", atOnce.bestPinch(0), 2);
    }

    private static void promise32BestPenance() {
        int[] arrears = {0, 1, 3, 4, 9, 10, 27, 40, 99};
        int[] due = {0, 1, 1, 2, 3, 4, 9, 9, 0};
        for (int i = 0; i < due.length; i++) {
            Expect.same("bestPenance(0) with " + arrears[i], Orders.inArrears(arrears[i]).bestPenance(0), due[i]);
        }
        SaltOrder some = Orders.inArrears(27);
        some.doPenance(0, 8);
        Expect.same("bestPenance(0) with 27 and 8 lumps", some.bestPenance(0), 1);
        some.doPenance(0, 1);
        Expect.same("bestPenance(0) with 27 and 9 lumps", some.bestPenance(0), 0);
        SaltOrder lucky = Orders.withMembers(1);
        lucky.pass(60);
        Expect.same("bestPenance(0) with luck 100", lucky.bestPenance(0), 0);
    }

    private static void promise32LooksTwentyDaysAhead() {
        Expect.same("bestPenance(0) with 40, luck 23", Orders.withLuck(23, 40).bestPenance(0), 9);
        Expect.same("bestPenance(0) with 40, luck 22", Orders.withLuck(22, 40).bestPenance(0), 0);
    }

    private static void promise32KnowsTheAudit() {
        SaltOrder order = Orders.withMembers(1);
        order.pass(5);
        order.throwSalt(0, 1, 1);
        Expect.same("bestPenance(0) a day ahead of the audit", order.bestPenance(0), 2);
        order.pass(1);
        Expect.same("bestPenance(0) in the day of the audit", order.bestPenance(0), 1);
    }

    private static void promises28To34ChangeNothing() {
        SaltOrder order = Orders.inArrears(17);
        order.doPenance(0, 2);
        order.throwSalt(0, 0, 3);
        order.throwSalt(0, 1, 9);
        order.throwSalt(1, 1, 9);
        long before = order.digest();
        order.luckIn(0, 60);
        order.luckIn(1, 7);
        order.daysUntilClear(0);
        order.daysUntilUnlucky(1);
        order.bestPinch(0);
        order.bestPenance(1);
        order.meanLuck();
        Expect.same("digest() behind questions", order.digest(), before);
        Expect.same("digest() behind digest()", order.digest(), before);
        Expect.same("clearMembers() behind questions", order.clearMembers(), 0);
        Expect.same("members() behind questions", order.members(), 2);
        order.pass(7);
        Expect.same("luckOf(0) behind 7 days", order.luckOf(0), 50 - 4 - 3);
    }

    private static void promise33MeanLuck() {
        Expect.same("meanLuck() of none", new SaltOrder().meanLuck(), 0.0);
        SaltOrder order = Orders.withMembers(3);
        Expect.same("meanLuck() of 50s", order.meanLuck(), 50.0);
        order.spill(1, 1);
        order.pass(1);
        Expect.same("meanLuck() of 51, 49, 51", order.meanLuck(), 151 / 3.0);
        SaltOrder pair = Orders.withMembers(2);
        pair.spill(1, 11);
        pair.pass(1);
        Expect.same("meanLuck() of 51, 48", pair.meanLuck(), 49.5);
        SaltOrder full = Orders.withMembers(8);
        full.luckIn(7, 5);
        Expect.same("meanLuck() of 8 behind luckIn", full.meanLuck(), 50.0);
    }

    private static void promise34Digest() {
        Expect.same("digest() of a new order", new SaltOrder().digest(),
                mixed(2011, new long[] {0, 0, 100, 0, 0, 0, -1, 0}));
        SaltOrder order = Orders.withMembers(2);
        order.audit();
        order.spill(1, 20);
        order.throwSalt(1, 1, 1);
        order.audit();
        order.pass(3);
        order.doPenance(0, 2);
        order.throwSalt(1, 0, 3);
        order.throwSalt(0, 1, 4);
        long head = mixed(2011, new long[] {3, 2, 72, 2, 1, 1, 0, 19});
        long members = mixed(head, new long[] {53, 0, 2, 0, 8, 0, 4, 41, 19, 0, 2, 0, 9, 7});
        long throwsToo = mixed(members, new long[] {1, 1, 3, 0, 0, 0, 4, 4});
        Expect.same("digest()", order.digest(), throwsToo);
    }

    private static long mixed(long start, long[] numbers) {
        long d = start;
        for (long x : numbers) {
            d = d * 31 + x;
        }
        return d;
    }
}
