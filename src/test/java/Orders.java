/** Orders that the tests begin with. */
final class Orders {
    private Orders() {
    }

    static SaltOrder withMembers(int members) {
        SaltOrder order = new SaltOrder();
        for (int i = 0; i < members; i++) {
            order.join();
        }
        return order;
    }

    /** Of one member with these arrears and this salt left. */
    static SaltOrder inArrears(int arrears, int salt) {
        SaltOrder order = withMembers(1);
        order.bringSalt(500);
        spillInParts(order, 0, arrears);
        leaveSalt(order, salt);
        return order;
    }

    static SaltOrder inArrears(int arrears) {
        return inArrears(arrears, 300);
    }

    static void spillInParts(SaltOrder order, int member, int grains) {
        int left = grains;
        while (left > 0) {
            int part = Math.min(30, left);
            order.spill(member, part);
            left -= part;
        }
    }

    /** A helper joins for it, who spills down to the wanted salt. */
    static void leaveSalt(SaltOrder order, int salt) {
        int helper = order.join();
        spillInParts(order, helper, order.salt() - salt);
    }

    static void throwTimes(SaltOrder order, int times, int member, int shoulder, int grains) {
        for (int i = 0; i < times; i++) {
            order.throwSalt(member, shoulder, grains);
        }
    }
}
