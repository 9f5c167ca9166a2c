/** The example of README.md: each call answers what is written behind it there. */
public final class ReadmeTest {
    private ReadmeTest() {
    }

    public static void main(String[] args) {
        SaltOrder order = new SaltOrder();
        int member = order.join();
        Expect.same("join()", member, 0);
        Expect.same("spill(member, 12)", order.spill(member, 12), 12);
        Expect.same("bestPinch(member)", order.bestPinch(member), 2);
        Expect.same("throwSalt(member, 0, 9)", order.throwSalt(member, 0, 9), 0);
        Expect.same("doPenance(member, 1)", order.doPenance(member, 1), 1);
        Expect.same("luckIn(member, 7)", order.luckIn(member, 7), 56);
        Expect.same("pass(7)", order.pass(7), 0);
        Expect.same("luckOf(member)", order.luckOf(member), 56);
        Expect.end();
    }
}
