/** Orders that the tests begin with. */
final class Orders {
    private Orders() {
    }

    static SaltOrder withMembers(int members) {
        SaltOrder order = new SaltOrder();
        for (int i = 0; i < members; i++) {
            order.join();
        }
        return order;
    }

    /** Of one member with these arrears and this salt left. */
    static SaltOrder inArrears(int arrears, int salt) {
        SaltOrder order = withMembers(1);
        order.bringSalt(500);
        spillInParts(order, 0, arrears);
        leaveSalt(order, salt);
        return order;
    }

    static SaltOrder inArrears(int arrears) {
        return inArrears(arrears, 300);
    }

    /** Of one member with this luck and these arrears; some days have gone by, the ledger is empty. */
    static SaltOrder withLuck(int luck, int arrears) {
        SaltOrder order = withMembers(1);
        order.bringSalt(500);
        if (luck > 50) {
            order.pass(luck - 50);
        } else if (luck < 50) {
            loseLuck(order, 50 - luck);
        }
        spillInParts(order, 0, arrears);
        return order;
    }

    /** A grain of arrears costs 1 a day; behind the days it is made up for. */
    private static void loseLuck(SaltOrder order, int luck) {
        order.spill(0, 1);
        order.pass(luck);
        order.throwSalt(0, 0, 1);
        order.audit();
    }

    /** Of one member, in this day, without arrears. */
    static SaltOrder inDay(int day) {
        SaltOrder order = withMembers(1);
        passInParts(order, day);
        return order;
    }

    static void passInParts(SaltOrder order, int days) {
        int left = days;
        while (left > 0) {
            int part = Math.min(60, left);
            order.pass(part);
            left -= part;
        }
    }

    static void spillInParts(SaltOrder order, int member, int grains) {
        int left = grains;
        while (left > 0) {
            int part = Math.min(30, left);
            order.spill(member, part);
            left -= part;
        }
    }

    /** A helper joins for it, who spills down to the wanted salt. */
    static void leaveSalt(SaltOrder order, int salt) {
        int helper = order.join();
        spillInParts(order, helper, order.salt() - salt);
    }

    static void throwTimes(SaltOrder order, int times, int member, int shoulder, int grains) {
        for (int i = 0; i < times; i++) {
            order.throwSalt(member, shoulder, grains);
        }
    }
}
