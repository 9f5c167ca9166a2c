/** Promises 9 to 18: what is asked of members. */
public final class MembersTellTest {
    private static final Class<IndexOutOfBoundsException> INDEX = IndexOutOfBoundsException.class;

    public static void main(String[] args) {
        promise9Day();
        promise10Members();
        promises11To13LuckArrearsLumps();
        promises11To14Refused();
        promise14DailyLoss();
        promise15Luckiest();
        promise16AllArrears();
        promise17ClearMembers();
        promise18Salt();
        Expect.end();
    }

    private static void promise9Day() {
        SaltOrder order = new SaltOrder();
        Expect.same("day()", order.day(), 0);
        order.pass(1);
        Expect.same("day()", order.day(), 1);
        order.pass(60);
        Expect.same("day()", order.day(), 61);
        order.audit();
        order.join();
        Expect.same("day() stays", order.day(), 61);
    }

    private static void promise10Members() {
        for (int i = 0; i <= 8; i++) {
            Expect.same("members()", Orders.withMembers(i).members(), i);
        }
    }

    private static void promises11To13LuckArrearsLumps() {
        SaltOrder order = Orders.withMembers(3);
        order.spill(1, 25);
        order.doPenance(2, 5);
        order.pass(2);
        int[] luck = {52, 44, 50};
        int[] arrears = {0, 25, 0};
        int[] lumps = {0, 0, 3};
        for (int i = 0; i < 3; i++) {
            Expect.same("luckOf(" + i + ")", order.luckOf(i), luck[i]);
            Expect.same("arrearsOf(" + i + ")", order.arrearsOf(i), arrears[i]);
            Expect.same("lumpsOf(" + i + ")", order.lumpsOf(i), lumps[i]);
        }
    }

    private static void promises11To14Refused() {
        for (int members : new int[] {0, 3, 8}) {
            SaltOrder order = Orders.withMembers(members);
            for (int wrong : new int[] {-1, members, 8, 9, Integer.MIN_VALUE, Integer.MAX_VALUE}) {
                Expect.refusedInVain("luckOf(" + wrong + ")", order, INDEX, () -> order.luckOf(wrong));
                Expect.refusedInVain("arrearsOf(" + wrong + ")", order, INDEX, () -> order.arrearsOf(wrong));
                Expect.refusedInVain("lumpsOf(" + wrong + ")", order, INDEX, () -> order.lumpsOf(wrong));
                Expect.refusedInVain("dailyLoss(" + wrong + ")", order, INDEX, () -> order.dailyLoss(wrong));
            }
        }
    }

    private static void promise14DailyLoss() {
        int[] arrears = {0, 1, 9, 10, 11, 20, 21, 90, 91, 99};
        int[] loss = {0, 1, 1, 1, 2, 2, 3, 9, 10, 10};
        for (int i = 0; i < arrears.length; i++) {
            SaltOrder order = Orders.inArrears(arrears[i]);
            Expect.same("dailyLoss with " + arrears[i], order.dailyLoss(0), loss[i]);
            order.doPenance(0, 1);
            Expect.same("dailyLoss with a lump", order.dailyLoss(0), 0);
            order.pass(1);
            int then = Math.max(0, arrears[i] - 3);
            Expect.same("dailyLoss behind the lump", order.dailyLoss(0), (then + 9) / 10);
        }
        SaltOrder unlucky = Orders.inArrears(99);
        unlucky.pass(5);
        Expect.same("dailyLoss without luck", unlucky.dailyLoss(0), 10);
        SaltOrder faulty = Orders.withMembers(1);
        faulty.pass(6);
        faulty.throwSalt(0, 1, 9);
        Expect.same("dailyLoss ahead of an audit", faulty.dailyLoss(0), 0);
    }

    private static void promise15Luckiest() {
        Expect.same("luckiest() of none", new SaltOrder().luckiest(), -1);
        SaltOrder order = Orders.withMembers(3);
        Expect.same("luckiest() of equals", order.luckiest(), 0);
        order.spill(0, 1);
        order.pass(1);
        Expect.same("luckiest() of 49, 51, 51", order.luckiest(), 1);
        order.spill(1, 1);
        order.pass(1);
        Expect.same("luckiest() of 48, 50, 52", order.luckiest(), 2);
        SaltOrder unlucky = Orders.inArrears(99);
        Orders.spillInParts(unlucky, 1, 99);
        unlucky.pass(10);
        Expect.same("luckiest() of 0, 0", unlucky.luckiest(), 0);
    }

    private static void promise16AllArrears() {
        Expect.same("allArrears() of none", new SaltOrder().allArrears(), 0);
        SaltOrder order = Orders.withMembers(8);
        Expect.same("allArrears() without any", order.allArrears(), 0);
        order.spill(0, 30);
        order.spill(3, 4);
        order.spill(7, 11);
        Expect.same("allArrears()", order.allArrears(), 45);
        order.throwSalt(0, 0, 9);
        Expect.same("allArrears() behind a throw", order.allArrears(), 36);
    }

    private static void promise17ClearMembers() {
        Expect.same("clearMembers() of none", new SaltOrder().clearMembers(), 0);
        SaltOrder order = Orders.withMembers(8);
        Expect.same("clearMembers() of 8", order.clearMembers(), 8);
        order.spill(0, 1);
        order.spill(7, 2);
        order.doPenance(1, 1);
        Expect.same("clearMembers() but two", order.clearMembers(), 6);
        order.luckIn(7, 60);
        order.throwSalt(0, 0, 1);
        Expect.same("clearMembers() but one", order.clearMembers(), 7);
    }

    private static void promise18Salt() {
        SaltOrder order = Orders.withMembers(1);
        Expect.same("salt()", order.salt(), 100);
        order.spill(0, 7);
        Expect.same("salt() behind a spill", order.salt(), 93);
        order.throwSalt(0, 0, 9);
        Expect.same("salt() behind a throw", order.salt(), 84);
        order.throwSalt(0, 1, 4);
        Expect.same("salt() behind a throw to the right", order.salt(), 80);
        order.bringSalt(20);
        Expect.same("salt() behind more", order.salt(), 100);
        order.audit();
        order.pass(7);
        Expect.same("salt() behind days", order.salt(), 100);
    }
}
