/** Promises 19 to 27: the ledger. */
public final class LedgerTest {
    private static final Class<IndexOutOfBoundsException> INDEX = IndexOutOfBoundsException.class;

    public static void main(String[] args) {
        promise19Ledger();
        promises20To23Entries();
        promises20To23Refused();
        promise24Faults();
        promise25ArrearsByAudit();
        promise25IsNotBounded();
        promise26DaysUntilAudit();
        promise27FaultsFound();
        Expect.end();
    }

    private static SaltOrder withThrows() {
        SaltOrder order = Orders.withMembers(8);
        order.spill(7, 5);
        order.throwSalt(7, 0, 3);
        order.throwSalt(7, 0, 9);
        order.throwSalt(2, 1, 4);
        order.throwSalt(0, 0, 1);
        return order;
    }

    private static void promise19Ledger() {
        SaltOrder order = Orders.withMembers(2);
        order.bringSalt(500);
        for (int i = 0; i < 30; i++) {
            Expect.same("ledger()", order.ledger(), i);
            order.throwSalt(i % 2, i / 2 % 2, 1 + i % 9);
        }
        Expect.same("ledger() when full", order.ledger(), 30);
        order.audit();
        Expect.same("ledger() behind an audit", order.ledger(), 0);
        order.throwSalt(0, 0, 1);
        order.pass(7);
        Expect.same("ledger() behind the day 6", order.ledger(), 0);
    }

    private static void promises20To23Entries() {
        SaltOrder order = withThrows();
        int[] members = {7, 7, 2, 0};
        boolean[] left = {true, true, false, true};
        int[] grains = {3, 9, 4, 1};
        int[] excess = {0, 7, 4, 1};
        for (int i = 0; i < 4; i++) {
            Expect.same("memberOf(" + i + ")", order.memberOf(i), members[i]);
            Expect.same("isLeft(" + i + ")", order.isLeft(i), left[i]);
            Expect.same("grainsOf(" + i + ")", order.grainsOf(i), grains[i]);
            Expect.same("excessOf(" + i + ")", order.excessOf(i), excess[i]);
        }
        order.audit();
        order.throwSalt(3, 1, 2);
        Expect.same("memberOf(0) of the next ledger", order.memberOf(0), 3);
        Expect.same("isLeft(0) of the next ledger", order.isLeft(0), false);
        Expect.same("grainsOf(0) of the next ledger", order.grainsOf(0), 2);
        Expect.same("excessOf(0) of the next ledger", order.excessOf(0), 2);
    }

    private static void promises20To23Refused() {
        SaltOrder full = Orders.withMembers(1);
        Orders.throwTimes(full, 30, 0, 0, 1);
        SaltOrder audited = withThrows();
        audited.audit();
        entriesAreRefused(new SaltOrder(), 0);
        entriesAreRefused(withThrows(), 4);
        entriesAreRefused(full, 30);
        entriesAreRefused(audited, 0);
    }

    private static void entriesAreRefused(SaltOrder order, int entries) {
        for (int wrong : new int[] {-1, entries, 30, 31, Integer.MIN_VALUE, Integer.MAX_VALUE}) {
            Expect.refusedInVain("memberOf(" + wrong + ")", order, INDEX, () -> order.memberOf(wrong));
            Expect.refusedInVain("isLeft(" + wrong + ")", order, INDEX, () -> order.isLeft(wrong));
            Expect.refusedInVain("grainsOf(" + wrong + ")", order, INDEX, () -> order.grainsOf(wrong));
            Expect.refusedInVain("excessOf(" + wrong + ")", order, INDEX, () -> order.excessOf(wrong));
        }
    }

    private static void promise24Faults() {
        Expect.same("faults() of none", new SaltOrder().faults(), 0);
        SaltOrder order = withThrows();
        Expect.same("faults()", order.faults(), 3);
        Expect.same("faults() changes nothing", order.faults(), 3);
        order.spill(1, 3);
        order.throwSalt(1, 0, 3);
        Expect.same("faults() with one more throw that is none", order.faults(), 3);
        order.audit();
        Expect.same("faults() behind an audit", order.faults(), 0);
    }

    private static void promise25ArrearsByAudit() {
        SaltOrder order = withThrows();
        order.throwSalt(7, 1, 2);
        int[] due = {2, 0, 8, 0, 0, 0, 0, 18};
        for (int i = 0; i < 8; i++) {
            Expect.same("arrearsByAudit(" + i + ")", order.arrearsByAudit(i), due[i]);
        }
        Expect.same("arrearsOf(7) stays", order.arrearsOf(7), 0);
        Expect.same("ledger() stays", order.ledger(), 5);
        for (int wrong : new int[] {-1, 8, 9, Integer.MIN_VALUE, Integer.MAX_VALUE}) {
            Expect.refusedInVain("arrearsByAudit(" + wrong + ")", order, INDEX, () -> order.arrearsByAudit(wrong));
        }
        SaltOrder few = Orders.withMembers(2);
        Expect.refusedInVain("arrearsByAudit(2) of 2", few, INDEX, () -> few.arrearsByAudit(2));
    }

    private static void promise25IsNotBounded() {
        SaltOrder order = Orders.withMembers(1);
        order.bringSalt(500);
        Orders.throwTimes(order, 30, 0, 1, 9);
        Expect.same("arrearsByAudit(0)", order.arrearsByAudit(0), 540);
        Expect.same("audit()", order.audit(), 30);
        Expect.same("arrearsOf(0)", order.arrearsOf(0), 99);
        Expect.same("arrearsByAudit(0)", order.arrearsByAudit(0), 0);
    }

    private static void promise26DaysUntilAudit() {
        SaltOrder order = new SaltOrder();
        int[] due = {6, 5, 4, 3, 2, 1, 0, 6, 5, 4, 3, 2, 1, 0, 6};
        for (int days : due) {
            Expect.same("daysUntilAudit() in the day " + order.day(), order.daysUntilAudit(), days);
            order.pass(1);
        }
        int before = order.daysUntilAudit();
        order.audit();
        Expect.same("daysUntilAudit() behind audit()", order.daysUntilAudit(), before);
    }

    private static void promise27FaultsFound() {
        SaltOrder order = withThrows();
        Expect.same("faultsFound() ahead", order.faultsFound(), 0);
        order.audit();
        Expect.same("faultsFound() behind audit()", order.faultsFound(), 3);
        order.throwSalt(1, 0, 1);
        order.pass(7);
        Expect.same("faultsFound() behind the day 6", order.faultsFound(), 4);
        order.throwSalt(1, 1, 1);
        order.luckIn(1, 60);
        Expect.same("faultsFound() behind luckIn", order.faultsFound(), 4);
    }
}
