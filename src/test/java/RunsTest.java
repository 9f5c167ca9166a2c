import java.util.Random;
import java.util.function.Supplier;

/** Long runs of calls, always the same ones, each answered by a plain order too. */
public final class RunsTest {
    private static final int RUNS = 400;
    private static final int CALLS = 512;

    private final Random random;
    private final SaltOrder order = new SaltOrder();
    private final PlainOrder plain = new PlainOrder();
    private final int run;
    private final int questionsInTen;

    private RunsTest(int run) {
        this.run = run;
        this.random = new Random(run);
        this.questionsInTen = run % 8;
    }

    public static void main(String[] args) {
        for (int run = 0; run < RUNS; run++) {
            new RunsTest(run).compareAll();
        }
        Expect.end();
    }

    private void compareAll() {
        for (int i = 0; i < CALLS - 1; i++) {
            if (random.nextInt(10) < questionsInTen) {
                ask(i);
            } else {
                act(i);
            }
        }
        same(CALLS - 1, "digest()", order::digest, plain::digest);
    }

    private void act(int i) {
        int m = member();
        int n = amount(30);
        switch (random.nextInt(12)) {
            case 0 -> same(i, "join()", order::join, plain::join);
            case 1, 2 -> same(i, "spill " + m + " " + n, () -> order.spill(m, n), () -> plain.spill(m, n));
            case 3, 4, 5 -> throwSome(i, m, amount(9));
            case 6 -> penance(i, m, amount(9));
            case 7, 8 -> bring(i, amount(run % 3 == 0 ? 30 : 500));
            case 9 -> auditAtTimes(i);
            default -> passSome(i, amount(run % 2 == 0 ? 3 : 60));
        }
    }

    private void throwSome(int i, int m, int n) {
        int shoulder = random.nextInt(25) == 0 ? random.nextInt(7) - 3 : random.nextInt(2);
        same(i, "throwSalt " + m + " " + shoulder + " " + n,
                () -> order.throwSalt(m, shoulder, n), () -> plain.throwSalt(m, shoulder, n));
    }

    private void penance(int i, int m, int n) {
        same(i, "doPenance " + m + " " + n, () -> order.doPenance(m, n), () -> plain.doPenance(m, n));
    }

    private void bring(int i, int n) {
        same(i, "bringSalt " + n, () -> order.bringSalt(n), () -> plain.bringSalt(n));
    }

    private void auditAtTimes(int i) {
        if (random.nextInt(4) == 0) {
            same(i, "audit()", order::audit, plain::audit);
        } else {
            throwSome(i, member(), amount(9));
        }
    }

    private void passSome(int i, int n) {
        same(i, "pass " + n, () -> order.pass(n), () -> plain.pass(n));
    }

    private void ask(int i) {
        if (random.nextBoolean()) {
            askOfAll(i);
        } else {
            askOfOne(i);
        }
    }

    private void askOfAll(int i) {
        switch (random.nextInt(12)) {
            case 0 -> same(i, "day()", order::day, plain::day);
            case 1 -> same(i, "members()", order::members, plain::members);
            case 2 -> same(i, "luckiest()", order::luckiest, plain::luckiest);
            case 3 -> same(i, "allArrears()", order::allArrears, plain::allArrears);
            case 4 -> same(i, "clearMembers()", order::clearMembers, plain::clearMembers);
            case 5 -> same(i, "salt()", order::salt, plain::salt);
            case 6 -> same(i, "ledger()", order::ledger, plain::ledger);
            case 7 -> same(i, "faults()", order::faults, plain::faults);
            case 8 -> same(i, "daysUntilAudit()", order::daysUntilAudit, plain::daysUntilAudit);
            case 9 -> same(i, "faultsFound()", order::faultsFound, plain::faultsFound);
            case 10 -> same(i, "meanLuck()", order::meanLuck, plain::meanLuck);
            default -> same(i, "digest()", order::digest, plain::digest);
        }
    }

    private void askOfOne(int i) {
        int m = member();
        int e = entry();
        int n = amount(60);
        switch (random.nextInt(14)) {
            case 0 -> same(i, "luckOf " + m, () -> order.luckOf(m), () -> plain.luckOf(m));
            case 1 -> same(i, "arrearsOf " + m, () -> order.arrearsOf(m), () -> plain.arrearsOf(m));
            case 2 -> same(i, "lumpsOf " + m, () -> order.lumpsOf(m), () -> plain.lumpsOf(m));
            case 3 -> same(i, "dailyLoss " + m, () -> order.dailyLoss(m), () -> plain.dailyLoss(m));
            case 4 -> same(i, "memberOf " + e, () -> order.memberOf(e), () -> plain.memberOf(e));
            case 5 -> same(i, "isLeft " + e, () -> order.isLeft(e), () -> plain.isLeft(e));
            case 6 -> same(i, "grainsOf " + e, () -> order.grainsOf(e), () -> plain.grainsOf(e));
            case 7 -> same(i, "excessOf " + e, () -> order.excessOf(e), () -> plain.excessOf(e));
            case 8 -> same(i, "arrearsByAudit " + m, () -> order.arrearsByAudit(m), () -> plain.arrearsByAudit(m));
            case 9 -> same(i, "luckIn " + m + " " + n, () -> order.luckIn(m, n), () -> plain.luckIn(m, n));
            case 10 -> same(i, "daysUntilClear " + m, () -> order.daysUntilClear(m), () -> plain.daysUntilClear(m));
            case 11 -> same(i, "daysUntilUnlucky " + m,
                    () -> order.daysUntilUnlucky(m), () -> plain.daysUntilUnlucky(m));
            case 12 -> same(i, "bestPinch " + m, () -> order.bestPinch(m), () -> plain.bestPinch(m));
            default -> same(i, "bestPenance " + m, () -> order.bestPenance(m), () -> plain.bestPenance(m));
        }
    }

    private int member() {
        int members = plain.members();
        return members == 0 || random.nextInt(20) == 0 ? random.nextInt(12) - 2 : random.nextInt(members);
    }

    private int entry() {
        int entries = plain.ledger();
        return entries == 0 || random.nextInt(10) == 0 ? random.nextInt(36) - 3 : random.nextInt(entries);
    }

    private int amount(int most) {
        return random.nextInt(20) == 0 ? random.nextInt(most + 5) - 2 : 1 + random.nextInt(most);
    }

    private void same(int i, String call, Supplier<Object> got, Supplier<Object> due) {
        Expect.same("run " + run + ", call " + i + ": " + call, answer(got), answer(due));
    }

    private static Object answer(Supplier<Object> call) {
        try {
            return call.get();
        } catch (RuntimeException e) {
            return e.getClass();
        }
    }
}
