/** Promises 1 to 8: a new object, and what members do. */
public final class MembersActTest {
    private static final Class<IndexOutOfBoundsException> INDEX = IndexOutOfBoundsException.class;
    private static final Class<IllegalArgumentException> ARGUMENT = IllegalArgumentException.class;
    private static final Class<IllegalStateException> STATE = IllegalStateException.class;

    public static void main(String[] args) {
        promise1NewOrder();
        promise2Join();
        promise3Spill();
        promise3SpillRefused();
        promise4ThrowLeft();
        promise4ThrowRight();
        promise4ThrowRefused();
        promise4ThrowRefusedByTheFullLedger();
        promise5DoPenance();
        promise5DoPenanceRefused();
        promise6BringSalt();
        promise7Audit();
        promise7AuditIsBounded();
        promise8PassLuck();
        promise8PassPenance();
        promise8PassAudits();
        promise8PassRefused();
        Expect.end();
    }

    private static void promise1NewOrder() {
        SaltOrder order = new SaltOrder();
        Expect.same("day() of a new order", order.day(), 0);
        Expect.same("members() of a new order", order.members(), 0);
        Expect.same("salt() of a new order", order.salt(), 100);
        Expect.same("ledger() of a new order", order.ledger(), 0);
        Expect.same("faultsFound() of a new order", order.faultsFound(), 0);
        Expect.same("luckiest() of a new order", order.luckiest(), -1);
        SaltOrder other = new SaltOrder();
        other.join();
        Expect.same("members() when another order has one", order.members(), 0);
    }

    private static void promise2Join() {
        SaltOrder order = new SaltOrder();
        for (int i = 0; i < 8; i++) {
            Expect.same("join()", order.join(), i);
            Expect.same("members() behind join()", order.members(), i + 1);
            Expect.same("luckOf(new)", order.luckOf(i), 50);
            Expect.same("arrearsOf(new)", order.arrearsOf(i), 0);
            Expect.same("lumpsOf(new)", order.lumpsOf(i), 0);
        }
        Expect.refusedInVain("join() of a ninth", order, STATE, () -> order.join());
        Expect.same("members() of a full order", order.members(), 8);

        SaltOrder late = Orders.withMembers(1);
        late.pass(9);
        late.join();
        Expect.same("luckOf one who joins late", late.luckOf(1), 50);
    }

    private static void promise3Spill() {
        SaltOrder order = Orders.withMembers(2);
        order.bringSalt(500);
        Expect.same("spill(1, 1)", order.spill(1, 1), 1);
        Expect.same("spill(1, 30)", order.spill(1, 30), 31);
        Expect.same("arrearsOf(1)", order.arrearsOf(1), 31);
        Expect.same("arrearsOf(0)", order.arrearsOf(0), 0);
        Expect.same("salt()", order.salt(), 469);
        Expect.same("spill(1, 30)", order.spill(1, 30), 61);
        Expect.same("spill(1, 30)", order.spill(1, 30), 91);
        Expect.same("spill(1, 8)", order.spill(1, 8), 99);
        Expect.same("spill(1, 30) at the bound", order.spill(1, 30), 99);
        Expect.same("salt() behind a bounded spill", order.salt(), 371);
        Expect.same("luckOf(1)", order.luckOf(1), 50);
        Expect.same("ledger()", order.ledger(), 0);
    }

    private static void promise3SpillRefused() {
        SaltOrder order = Orders.withMembers(1);
        Orders.spillInParts(order, 0, 90);
        Expect.refusedInVain("spill(-1, 1)", order, INDEX, () -> order.spill(-1, 1));
        Expect.refusedInVain("spill(1, 1)", order, INDEX, () -> order.spill(1, 1));
        Expect.refusedInVain("spill(8, 1)", order, INDEX, () -> order.spill(8, 1));
        Expect.refusedInVain("spill(9, 1)", order, INDEX, () -> order.spill(9, 1));
        Expect.refusedInVain("spill(MAX, 1)", order, INDEX, () -> order.spill(Integer.MAX_VALUE, 1));
        Expect.refusedInVain("spill(MIN, 1)", order, INDEX, () -> order.spill(Integer.MIN_VALUE, 1));
        Expect.refusedInVain("spill(1, 0)", order, INDEX, () -> order.spill(1, 0));
        Expect.refusedInVain("spill(0, 0)", order, ARGUMENT, () -> order.spill(0, 0));
        Expect.refusedInVain("spill(0, -1)", order, ARGUMENT, () -> order.spill(0, -1));
        Expect.refusedInVain("spill(0, 31)", order, ARGUMENT, () -> order.spill(0, 31));
        Expect.refusedInVain("spill(0, MIN)", order, ARGUMENT, () -> order.spill(0, Integer.MIN_VALUE));
        Expect.refusedInVain("spill(0, 11) of 10", order, STATE, () -> order.spill(0, 11));
        Expect.same("spill(0, 10) of 10", order.spill(0, 10), 99);
        Expect.same("salt()", order.salt(), 0);
        Expect.refusedInVain("spill(0, 1) of none", order, STATE, () -> order.spill(0, 1));
    }

    private static void promise4ThrowLeft() {
        SaltOrder order = Orders.withMembers(2);
        order.spill(1, 12);
        Expect.same("throwSalt(1, 0, 5)", order.throwSalt(1, 0, 5), 0);
        Expect.same("arrearsOf(1)", order.arrearsOf(1), 7);
        Expect.same("throwSalt(1, 0, 7)", order.throwSalt(1, 0, 7), 0);
        Expect.same("arrearsOf(1)", order.arrearsOf(1), 0);
        order.spill(1, 4);
        Expect.same("throwSalt(1, 0, 9)", order.throwSalt(1, 0, 9), 5);
        Expect.same("arrearsOf(1)", order.arrearsOf(1), 0);
        Expect.same("throwSalt(0, 0, 3)", order.throwSalt(0, 0, 3), 3);
        Expect.same("salt()", order.salt(), 60);
        Expect.same("ledger()", order.ledger(), 4);
        Expect.same("luckOf(1)", order.luckOf(1), 50);
    }

    private static void promise4ThrowRight() {
        SaltOrder order = Orders.withMembers(1);
        order.spill(0, 20);
        Expect.same("throwSalt(0, 1, 9)", order.throwSalt(0, 1, 9), 9);
        Expect.same("throwSalt(0, 1, 1)", order.throwSalt(0, 1, 1), 1);
        Expect.same("arrearsOf(0)", order.arrearsOf(0), 20);
        Expect.same("salt()", order.salt(), 70);
        Expect.same("ledger()", order.ledger(), 2);
    }

    private static void promise4ThrowRefused() {
        SaltOrder order = Orders.withMembers(1);
        Orders.spillInParts(order, 0, 95);
        Expect.refusedInVain("throwSalt(-1, 0, 1)", order, INDEX, () -> order.throwSalt(-1, 0, 1));
        Expect.refusedInVain("throwSalt(1, 0, 1)", order, INDEX, () -> order.throwSalt(1, 0, 1));
        Expect.refusedInVain("throwSalt(8, 0, 1)", order, INDEX, () -> order.throwSalt(8, 0, 1));
        Expect.refusedInVain("throwSalt(0, -1, 1)", order, INDEX, () -> order.throwSalt(0, -1, 1));
        Expect.refusedInVain("throwSalt(0, 2, 1)", order, INDEX, () -> order.throwSalt(0, 2, 1));
        Expect.refusedInVain("throwSalt(0, 2, 10)", order, INDEX, () -> order.throwSalt(0, 2, 10));
        Expect.refusedInVain("throwSalt(1, 0, 0)", order, INDEX, () -> order.throwSalt(1, 0, 0));
        Expect.refusedInVain("throwSalt(0, 2, 9)", order, INDEX, () -> order.throwSalt(0, 2, 9));
        Expect.refusedInVain("throwSalt(0, 0, 0)", order, ARGUMENT, () -> order.throwSalt(0, 0, 0));
        Expect.refusedInVain("throwSalt(0, 1, -1)", order, ARGUMENT, () -> order.throwSalt(0, 1, -1));
        Expect.refusedInVain("throwSalt(0, 1, 10)", order, ARGUMENT, () -> order.throwSalt(0, 1, 10));
        Expect.refusedInVain("throwSalt(0, 0, 6) of 5", order, STATE, () -> order.throwSalt(0, 0, 6));
        Expect.refusedInVain("throwSalt(0, 1, 6) of 5", order, STATE, () -> order.throwSalt(0, 1, 6));
        Expect.same("throwSalt(0, 1, 5) of 5", order.throwSalt(0, 1, 5), 5);
        Expect.same("salt()", order.salt(), 0);
        Expect.refusedInVain("throwSalt(0, 0, 1) of none", order, STATE, () -> order.throwSalt(0, 0, 1));
        Expect.refusedInVain("throwSalt(0, 0, 10) of none", order, ARGUMENT, () -> order.throwSalt(0, 0, 10));
    }

    private static void promise4ThrowRefusedByTheFullLedger() {
        SaltOrder order = Orders.withMembers(2);
        order.spill(1, 30);
        Orders.throwTimes(order, 29, 1, 0, 1);
        Expect.same("the 30th throw", order.throwSalt(1, 1, 1), 1);
        Expect.same("ledger()", order.ledger(), 30);
        Expect.refusedInVain("the 31st throw, left", order, STATE, () -> order.throwSalt(1, 0, 1));
        Expect.refusedInVain("the 31st throw, right", order, STATE, () -> order.throwSalt(0, 1, 1));
        Expect.refusedInVain("the 31st, of nobody", order, INDEX, () -> order.throwSalt(2, 1, 1));
        Expect.refusedInVain("the 31st, of nothing", order, ARGUMENT, () -> order.throwSalt(1, 1, 0));
        order.audit();
        Expect.same("a throw behind the audit", order.throwSalt(0, 1, 2), 2);
        Expect.same("ledger()", order.ledger(), 1);
    }

    private static void promise5DoPenance() {
        SaltOrder order = Orders.withMembers(2);
        Expect.same("doPenance(1, 1)", order.doPenance(1, 1), 1);
        Expect.same("doPenance(1, 7)", order.doPenance(1, 7), 8);
        Expect.same("lumpsOf(1)", order.lumpsOf(1), 8);
        Expect.same("doPenance(1, 2)", order.doPenance(1, 2), 9);
        Expect.same("lumpsOf(1)", order.lumpsOf(1), 9);
        Expect.same("doPenance(1, 9)", order.doPenance(1, 9), 9);
        Expect.same("lumpsOf(0)", order.lumpsOf(0), 0);
        Expect.same("doPenance(0, 9)", order.doPenance(0, 9), 9);
        Expect.same("salt()", order.salt(), 100);
    }

    private static void promise5DoPenanceRefused() {
        SaltOrder order = Orders.withMembers(3);
        order.doPenance(2, 4);
        Expect.refusedInVain("doPenance(-1, 1)", order, INDEX, () -> order.doPenance(-1, 1));
        Expect.refusedInVain("doPenance(3, 1)", order, INDEX, () -> order.doPenance(3, 1));
        Expect.refusedInVain("doPenance(8, 0)", order, INDEX, () -> order.doPenance(8, 0));
        Expect.refusedInVain("doPenance(2, 0)", order, ARGUMENT, () -> order.doPenance(2, 0));
        Expect.refusedInVain("doPenance(2, -1)", order, ARGUMENT, () -> order.doPenance(2, -1));
        Expect.refusedInVain("doPenance(2, 10)", order, ARGUMENT, () -> order.doPenance(2, 10));
        Expect.refusedInVain("doPenance(2, MAX)", order, ARGUMENT, () -> order.doPenance(2, Integer.MAX_VALUE));
    }

    private static void promise6BringSalt() {
        SaltOrder order = new SaltOrder();
        Expect.same("bringSalt(1)", order.bringSalt(1), 101);
        Expect.same("bringSalt(398)", order.bringSalt(398), 499);
        Expect.same("bringSalt(1)", order.bringSalt(1), 500);
        Expect.same("bringSalt(1) when full", order.bringSalt(1), 500);
        Expect.same("bringSalt(500) when full", order.bringSalt(500), 500);
        Expect.same("salt()", order.salt(), 500);
        Expect.same("bringSalt(500) when new", new SaltOrder().bringSalt(500), 500);
        SaltOrder other = new SaltOrder();
        Expect.refusedInVain("bringSalt(0)", other, ARGUMENT, () -> other.bringSalt(0));
        Expect.refusedInVain("bringSalt(-1)", other, ARGUMENT, () -> other.bringSalt(-1));
        Expect.refusedInVain("bringSalt(501)", other, ARGUMENT, () -> other.bringSalt(501));
        Expect.refusedInVain("bringSalt(MAX)", other, ARGUMENT, () -> other.bringSalt(Integer.MAX_VALUE));
        Expect.refusedInVain("bringSalt(MIN)", other, ARGUMENT, () -> other.bringSalt(Integer.MIN_VALUE));
    }

    private static void promise7Audit() {
        SaltOrder order = Orders.withMembers(3);
        Expect.same("audit() of nothing", order.audit(), 0);
        order.spill(0, 7);
        order.throwSalt(0, 0, 5);
        order.throwSalt(0, 0, 6);
        order.throwSalt(1, 1, 3);
        order.throwSalt(1, 1, 2);
        Expect.same("audit()", order.audit(), 3);
        Expect.same("arrearsOf(0)", order.arrearsOf(0), 8);
        Expect.same("arrearsOf(1)", order.arrearsOf(1), 10);
        Expect.same("arrearsOf(2)", order.arrearsOf(2), 0);
        Expect.same("ledger()", order.ledger(), 0);
        Expect.same("faultsFound()", order.faultsFound(), 3);
        Expect.same("day()", order.day(), 0);
        Expect.same("luckOf(0)", order.luckOf(0), 50);
        Expect.same("audit() again", order.audit(), 0);
        Expect.same("arrearsOf(1) behind it", order.arrearsOf(1), 10);
        Expect.same("faultsFound() behind it", order.faultsFound(), 3);
    }

    private static void promise7AuditIsBounded() {
        SaltOrder order = Orders.inArrears(82);
        order.throwSalt(0, 1, 8);
        Expect.same("audit()", order.audit(), 1);
        Expect.same("arrearsOf(0)", order.arrearsOf(0), 98);
        order.throwSalt(0, 1, 1);
        order.throwSalt(0, 1, 9);
        Expect.same("audit()", order.audit(), 2);
        Expect.same("arrearsOf(0) at the bound", order.arrearsOf(0), 99);
    }

    private static void promise8PassLuck() {
        SaltOrder order = Orders.withMembers(5);
        order.bringSalt(500);
        order.spill(1, 1);
        order.spill(2, 10);
        order.spill(3, 11);
        Orders.spillInParts(order, 4, 99);
        Expect.same("pass(1)", order.pass(1), 0);
        Expect.same("day()", order.day(), 1);
        Expect.same("luck without arrears", order.luckOf(0), 51);
        Expect.same("luck with 1", order.luckOf(1), 49);
        Expect.same("luck with 10", order.luckOf(2), 49);
        Expect.same("luck with 11", order.luckOf(3), 48);
        Expect.same("luck with 99", order.luckOf(4), 40);
        Expect.same("pass(4)", order.pass(4), 0);
        Expect.same("luck with 99", order.luckOf(4), 0);
        Expect.same("pass(44)", order.pass(44), 0);
        Expect.same("luck at the upper bound - 1", order.luckOf(0), 99);
        Expect.same("luck at the lower bound + 1", order.luckOf(1), 1);
        order.pass(1);
        Expect.same("luck at the upper bound", order.luckOf(0), 100);
        Expect.same("luck at the lower bound", order.luckOf(1), 0);
        order.pass(60);
        Expect.same("luck stays at the upper bound", order.luckOf(0), 100);
        Expect.same("luck stays at the lower bound", order.luckOf(1), 0);
        Expect.same("arrears stay", order.arrearsOf(3), 11);
        Expect.same("day()", order.day(), 110);
    }

    private static void promise8PassPenance() {
        SaltOrder order = Orders.withMembers(2);
        order.spill(0, 8);
        order.doPenance(0, 4);
        int[] arrears = {5, 2, 0, 0, 0};
        int[] lumps = {3, 2, 1, 0, 0};
        int[] luck = {50, 50, 50, 50, 51};
        for (int i = 0; i < 5; i++) {
            order.pass(1);
            Expect.same("arrears while eating", order.arrearsOf(0), arrears[i]);
            Expect.same("lumps while eating", order.lumpsOf(0), lumps[i]);
            Expect.same("luck while eating", order.luckOf(0), luck[i]);
        }
        Expect.same("the other's luck", order.luckOf(1), 55);
    }

    private static void promise8PassAudits() {
        SaltOrder order = Orders.withMembers(2);
        order.throwSalt(0, 1, 1);
        order.throwSalt(1, 0, 2);
        Expect.same("pass(6)", order.pass(6), 0);
        Expect.same("ledger() ahead of the audit", order.ledger(), 2);
        Expect.same("pass(1), the day 6", order.pass(1), 2);
        Expect.same("ledger() behind the audit", order.ledger(), 0);
        Expect.same("the audit is ahead of the luck", order.luckOf(0), 55);
        Expect.same("arrearsOf(0)", order.arrearsOf(0), 2);
        Expect.same("arrearsOf(1)", order.arrearsOf(1), 4);
        order.throwSalt(0, 1, 1);
        Expect.same("pass(6)", order.pass(6), 0);
        Expect.same("pass(60), the day 13 and more", order.pass(60), 1);
        Expect.same("faultsFound()", order.faultsFound(), 3);
        Expect.same("day()", order.day(), 73);

        SaltOrder eating = Orders.withMembers(1);
        eating.pass(6);
        eating.throwSalt(0, 1, 2);
        eating.doPenance(0, 1);
        eating.pass(1);
        Expect.same("the audit is ahead of the sugar", eating.arrearsOf(0), 1);
    }

    private static void promise8PassRefused() {
        SaltOrder order = Orders.withMembers(1);
        Expect.refusedInVain("pass(0)", order, ARGUMENT, () -> order.pass(0));
        Expect.refusedInVain("pass(-1)", order, ARGUMENT, () -> order.pass(-1));
        Expect.refusedInVain("pass(61)", order, ARGUMENT, () -> order.pass(61));
        Expect.refusedInVain("pass(MAX)", order, ARGUMENT, () -> order.pass(Integer.MAX_VALUE));
        Expect.same("pass(60)", order.pass(60), 0);
        Expect.same("day()", order.day(), 60);
    }
}
