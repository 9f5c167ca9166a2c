import java.util.List;
import java.util.function.Consumer;
import java.util.function.Supplier;

/**
 * Each sentence "Throws .. if .." has a test of its own, with the last value that is taken and the
 * first that is refused on each side; and each two of one call, of which the one named first is thrown.
 * Behind each refused call all answers are as they were.
 */
public final class RefusalsTest {
    private interface Question {
        void ask(SaltOrder order, int number);
    }

    private static final int[] COUNTS = {0, 1, 2, 7, 8};

    public static void main(String[] args) {
        joinOfTheNinth();
        spillOfNoMember();
        spillOfTooFewOrTooManyGrains();
        spillOfMoreThanTheCellarHas();
        spillNamesNoMemberFirst();
        spillNamesGrainsSecond();
        throwOfNoMember();
        throwOverNoShoulder();
        throwOfTooFewOrTooManyGrains();
        throwOfMoreThanTheCellarHas();
        throwIntoTheFullLedger();
        throwNamesNoMemberOrShoulderFirst();
        throwNamesGrainsSecond();
        throwOfNoSaltIntoTheFullLedger();
        penanceOfNoMember();
        penanceOfTooFewOrTooManyLumps();
        penanceNamesNoMemberFirst();
        bringTooFewOrTooManyGrains();
        passTooFewOrTooManyDays();
        luckOfNoMember();
        arrearsOfNoMember();
        lumpsOfNoMember();
        dailyLossOfNoMember();
        memberOfNoThrow();
        isLeftOfNoThrow();
        grainsOfNoThrow();
        excessOfNoThrow();
        arrearsByAuditOfNoMember();
        luckInOfNoMember();
        luckInTooFewOrTooManyDays();
        luckInNamesNoMemberFirst();
        daysUntilClearOfNoMember();
        daysUntilUnluckyOfNoMember();
        bestPinchOfNoMember();
        bestPenanceOfNoMember();
        Expect.end();
    }

    /** Of so many members, each of them in a different state. */
    private static SaltOrder mixed(int members) {
        SaltOrder order = Orders.withMembers(members);
        order.bringSalt(500);
        for (int member = 0; member < members; member++) {
            Orders.spillInParts(order, member, member * 11);
            if (member % 3 == 1) {
                order.doPenance(member, member);
            }
            order.throwSalt(member, member % 2, 1 + member);
        }
        order.pass(5);
        return order;
    }

    private static SaltOrder withThrows(int times) {
        SaltOrder order = Orders.withMembers(2);
        Orders.throwTimes(order, times / 2, 0, 0, 1);
        Orders.throwTimes(order, times - times / 2, 1, 1, 2);
        return order;
    }

    private static SaltOrder withFullLedgerAndNoSalt() {
        SaltOrder order = withThrows(30);
        Orders.spillInParts(order, 0, order.salt());
        return order;
    }

    private static void taken(String what, Runnable call) {
        Expect.refused(what, null, call::run);
    }

    // ---- promise 2

    private static void joinOfTheNinth() {
        taken("join() of the 8th", () -> mixed(7).join());
        Expect.refusedByNew("join() of the 9th", () -> mixed(8), Wrong.STATE, order -> order.join());
        Expect.refusedByNew("join() of the 9th, twice", () -> mixed(8), Wrong.STATE, RefusalsTest::joinTwice);
    }

    private static void joinTwice(SaltOrder order) {
        Expect.refused("join() of the 9th", Wrong.STATE, () -> order.join());
        order.join();
    }

    // ---- promise 3

    private static void spillOfNoMember() {
        for (int count : COUNTS) {
            for (int wrong : Wrong.numbers(count)) {
                Expect.refusedByNew("spill(" + wrong + ", 1) of " + count, () -> mixed(count), Wrong.INDEX,
                        order -> order.spill(wrong, 1));
            }
            for (int member = 0; member < count; member++) {
                int right = member;
                taken("spill(" + right + ", 1) of " + count, () -> mixed(count).spill(right, 1));
            }
        }
    }

    private static void spillOfTooFewOrTooManyGrains() {
        for (int wrong : Wrong.amounts(30)) {
            Expect.refusedByNew("spill(1, " + wrong + ")", () -> mixed(2), Wrong.ARGUMENT,
                    order -> order.spill(1, wrong));
        }
        taken("spill(1, 1)", () -> mixed(2).spill(1, 1));
        taken("spill(1, 30)", () -> mixed(2).spill(1, 30));
    }

    private static void spillOfMoreThanTheCellarHas() {
        for (int grains : new int[] {1, 2, 29, 30}) {
            Expect.refusedByNew("spill(0, " + grains + ") of one less", () -> Orders.inArrears(9, grains - 1),
                    Wrong.STATE, order -> order.spill(0, grains));
            taken("spill(0, " + grains + ") of as many", () -> Orders.inArrears(9, grains).spill(0, grains));
        }
        Expect.refusedByNew("spill(0, 1) with 99 arrears", () -> Orders.inArrears(99, 0),
                Wrong.STATE, order -> order.spill(0, 1));
    }

    private static void spillNamesNoMemberFirst() {
        for (int wrong : new int[] {-1, 2, 8}) {
            for (int grains : new int[] {0, 31}) {
                Expect.refusedByNew("spill(" + wrong + ", " + grains + ")", () -> mixed(2), Wrong.INDEX,
                        order -> order.spill(wrong, grains));
            }
            Expect.refusedByNew("spill(" + wrong + ", 1) of no salt", () -> Orders.inArrears(9, 0), Wrong.INDEX,
                    order -> order.spill(wrong, 1));
            Expect.refusedByNew("spill(" + wrong + ", 31) of no salt", () -> Orders.inArrears(9, 0), Wrong.INDEX,
                    order -> order.spill(wrong, 31));
        }
    }

    private static void spillNamesGrainsSecond() {
        for (int grains : new int[] {Integer.MIN_VALUE, -1, 0, 31, Integer.MAX_VALUE}) {
            Expect.refusedByNew("spill(0, " + grains + ") of no salt", () -> Orders.inArrears(9, 0), Wrong.ARGUMENT,
                    order -> order.spill(0, grains));
        }
    }

    // ---- promise 4

    private static void throwOfNoMember() {
        for (int count : COUNTS) {
            for (int wrong : Wrong.numbers(count)) {
                Expect.refusedByNew("throwSalt(" + wrong + ", 0, 1) of " + count, () -> mixed(count), Wrong.INDEX,
                        order -> order.throwSalt(wrong, 0, 1));
            }
            for (int member = 0; member < count; member++) {
                int right = member;
                taken("throwSalt(" + right + ", 0, 1) of " + count, () -> mixed(count).throwSalt(right, 0, 1));
            }
        }
    }

    private static void throwOverNoShoulder() {
        for (int wrong : Wrong.shoulders()) {
            Expect.refusedByNew("throwSalt(1, " + wrong + ", 1)", () -> mixed(2), Wrong.INDEX,
                    order -> order.throwSalt(1, wrong, 1));
        }
        taken("throwSalt(1, 0, 1)", () -> mixed(2).throwSalt(1, 0, 1));
        taken("throwSalt(1, 1, 1)", () -> mixed(2).throwSalt(1, 1, 1));
    }

    private static void throwOfTooFewOrTooManyGrains() {
        for (int shoulder : new int[] {0, 1}) {
            for (int wrong : Wrong.amounts(9)) {
                Expect.refusedByNew("throwSalt(1, " + shoulder + ", " + wrong + ")", () -> mixed(2), Wrong.ARGUMENT,
                        order -> order.throwSalt(1, shoulder, wrong));
            }
            taken("throwSalt(1, " + shoulder + ", 1)", () -> mixed(2).throwSalt(1, shoulder, 1));
            taken("throwSalt(1, " + shoulder + ", 9)", () -> mixed(2).throwSalt(1, shoulder, 9));
        }
    }

    private static void throwOfMoreThanTheCellarHas() {
        for (int shoulder : new int[] {0, 1}) {
            for (int grains = 1; grains <= 9; grains++) {
                int most = grains;
                Expect.refusedByNew("throwSalt(0, " + shoulder + ", " + most + ") of one less",
                        () -> Orders.inArrears(12, most - 1), Wrong.STATE,
                        order -> order.throwSalt(0, shoulder, most));
                taken("throwSalt(0, " + shoulder + ", " + most + ") of as many",
                        () -> Orders.inArrears(12, most).throwSalt(0, shoulder, most));
            }
        }
    }

    private static void throwIntoTheFullLedger() {
        for (int shoulder : new int[] {0, 1}) {
            for (int grains : new int[] {1, 9}) {
                Expect.refusedByNew("throwSalt(1, " + shoulder + ", " + grains + ") as the 31st",
                        () -> withThrows(30), Wrong.STATE, order -> order.throwSalt(1, shoulder, grains));
                taken("throwSalt(1, " + shoulder + ", " + grains + ") as the 30th",
                        () -> withThrows(29).throwSalt(1, shoulder, grains));
            }
        }
    }

    private static void throwNamesNoMemberOrShoulderFirst() {
        List<Supplier<SaltOrder>> orders = List.of(() -> withThrows(2), () -> Orders.inArrears(9, 0),
                () -> withThrows(30), RefusalsTest::withFullLedgerAndNoSalt);
        for (Supplier<SaltOrder> made : orders) {
            for (int grains : new int[] {0, 1, 9, 10}) {
                for (int wrong : new int[] {-1, 2, 8}) {
                    Expect.refusedByNew("throwSalt(" + wrong + ", 0, " + grains + ")", made, Wrong.INDEX,
                            order -> order.throwSalt(wrong, 0, grains));
                    Expect.refusedByNew("throwSalt(0, " + wrong + ", " + grains + ")", made, Wrong.INDEX,
                            order -> order.throwSalt(0, wrong, grains));
                    Expect.refusedByNew("throwSalt(" + wrong + ", " + wrong + ", " + grains + ")", made, Wrong.INDEX,
                            order -> order.throwSalt(wrong, wrong, grains));
                }
            }
        }
    }

    private static void throwNamesGrainsSecond() {
        for (int grains : new int[] {Integer.MIN_VALUE, -1, 0, 10, Integer.MAX_VALUE}) {
            for (int shoulder : new int[] {0, 1}) {
                String what = "throwSalt(0, " + shoulder + ", " + grains + ")";
                Consumer<SaltOrder> call = order -> order.throwSalt(0, shoulder, grains);
                Expect.refusedByNew(what + " of no salt", () -> Orders.inArrears(9, 0), Wrong.ARGUMENT, call);
                Expect.refusedByNew(what + " as the 31st", () -> withThrows(30), Wrong.ARGUMENT, call);
                Expect.refusedByNew(what + " of both", RefusalsTest::withFullLedgerAndNoSalt, Wrong.ARGUMENT, call);
            }
        }
    }

    private static void throwOfNoSaltIntoTheFullLedger() {
        Expect.refusedByNew("throwSalt(1, 0, 1)", RefusalsTest::withFullLedgerAndNoSalt, Wrong.STATE,
                order -> order.throwSalt(1, 0, 1));
    }

    // ---- promise 5

    private static void penanceOfNoMember() {
        for (int count : COUNTS) {
            for (int wrong : Wrong.numbers(count)) {
                Expect.refusedByNew("doPenance(" + wrong + ", 1) of " + count, () -> mixed(count), Wrong.INDEX,
                        order -> order.doPenance(wrong, 1));
            }
            for (int member = 0; member < count; member++) {
                int right = member;
                taken("doPenance(" + right + ", 1) of " + count, () -> mixed(count).doPenance(right, 1));
            }
        }
    }

    private static void penanceOfTooFewOrTooManyLumps() {
        for (int wrong : Wrong.amounts(9)) {
            Expect.refusedByNew("doPenance(1, " + wrong + ")", () -> mixed(2), Wrong.ARGUMENT,
                    order -> order.doPenance(1, wrong));
        }
        taken("doPenance(1, 1)", () -> mixed(2).doPenance(1, 1));
        taken("doPenance(1, 9)", () -> mixed(2).doPenance(1, 9));
    }

    private static void penanceNamesNoMemberFirst() {
        for (int wrong : new int[] {-1, 2, 8}) {
            for (int lumps : new int[] {-1, 0, 10}) {
                Expect.refusedByNew("doPenance(" + wrong + ", " + lumps + ")", () -> mixed(2), Wrong.INDEX,
                        order -> order.doPenance(wrong, lumps));
            }
        }
    }

    // ---- promises 6 and 8

    private static void bringTooFewOrTooManyGrains() {
        for (int wrong : Wrong.amounts(500)) {
            Expect.refusedByNew("bringSalt(" + wrong + ")", SaltOrder::new, Wrong.ARGUMENT,
                    order -> order.bringSalt(wrong));
            Expect.refusedByNew("bringSalt(" + wrong + ") to 500", () -> Orders.inArrears(1, 500), Wrong.ARGUMENT,
                    order -> order.bringSalt(wrong));
        }
        taken("bringSalt(1)", () -> new SaltOrder().bringSalt(1));
        taken("bringSalt(500)", () -> new SaltOrder().bringSalt(500));
        taken("bringSalt(500) to 500", () -> Orders.inArrears(1, 500).bringSalt(500));
    }

    private static void passTooFewOrTooManyDays() {
        for (int wrong : Wrong.amounts(60)) {
            Expect.refusedByNew("pass(" + wrong + ")", () -> mixed(8), Wrong.ARGUMENT, order -> order.pass(wrong));
        }
        taken("pass(1)", () -> mixed(8).pass(1));
        taken("pass(60)", () -> mixed(8).pass(60));
    }

    // ---- promises 11 to 14, 25 and 29 to 32

    private static void luckOfNoMember() {
        onlyOfMembers("luckOf", SaltOrder::luckOf);
    }

    private static void arrearsOfNoMember() {
        onlyOfMembers("arrearsOf", SaltOrder::arrearsOf);
    }

    private static void lumpsOfNoMember() {
        onlyOfMembers("lumpsOf", SaltOrder::lumpsOf);
    }

    private static void dailyLossOfNoMember() {
        onlyOfMembers("dailyLoss", SaltOrder::dailyLoss);
    }

    private static void arrearsByAuditOfNoMember() {
        onlyOfMembers("arrearsByAudit", SaltOrder::arrearsByAudit);
    }

    private static void daysUntilClearOfNoMember() {
        onlyOfMembers("daysUntilClear", SaltOrder::daysUntilClear);
    }

    private static void daysUntilUnluckyOfNoMember() {
        onlyOfMembers("daysUntilUnlucky", SaltOrder::daysUntilUnlucky);
    }

    /** A full ledger answers 0, but not of one whom there is not. */
    private static void bestPinchOfNoMember() {
        onlyOfMembers("bestPinch", SaltOrder::bestPinch);
    }

    private static void bestPenanceOfNoMember() {
        onlyOfMembers("bestPenance", SaltOrder::bestPenance);
    }

    private static void onlyOfMembers(String name, Question question) {
        for (int count : COUNTS) {
            onlyOfThese(name, () -> mixed(count), count, question);
        }
        onlyOfThese(name, () -> withThrows(30), 2, question);
        onlyOfThese(name, RefusalsTest::withFullLedgerAndNoSalt, 2, question);
    }

    private static void onlyOfThese(String name, Supplier<SaltOrder> made, int count, Question question) {
        for (int wrong : Wrong.numbers(count)) {
            Expect.refusedByNew(name + "(" + wrong + ") of " + count, made, Wrong.INDEX,
                    order -> question.ask(order, wrong));
        }
        SaltOrder order = made.get();
        for (int number = 0; number < count; number++) {
            int right = number;
            taken(name + "(" + right + ") of " + count, () -> question.ask(order, right));
        }
    }

    // ---- promises 20 to 23

    private static void memberOfNoThrow() {
        onlyOfThrows("memberOf", SaltOrder::memberOf);
    }

    private static void isLeftOfNoThrow() {
        onlyOfThrows("isLeft", SaltOrder::isLeft);
    }

    private static void grainsOfNoThrow() {
        onlyOfThrows("grainsOf", SaltOrder::grainsOf);
    }

    private static void excessOfNoThrow() {
        onlyOfThrows("excessOf", SaltOrder::excessOf);
    }

    private static void onlyOfThrows(String name, Question question) {
        for (int count : new int[] {0, 1, 2, 29, 30}) {
            onlyOfThese(name, () -> withThrows(count), count, question);
        }
        onlyOfThese(name + ", audited", RefusalsTest::audited, 0, question);
        onlyOfThese(name + ", without members", SaltOrder::new, 0, question);
    }

    private static SaltOrder audited() {
        SaltOrder order = withThrows(30);
        order.audit();
        return order;
    }

    // ---- promise 28

    private static void luckInOfNoMember() {
        for (int count : COUNTS) {
            for (int wrong : Wrong.numbers(count)) {
                Expect.refusedByNew("luckIn(" + wrong + ", 1) of " + count, () -> mixed(count), Wrong.INDEX,
                        order -> order.luckIn(wrong, 1));
            }
            for (int member = 0; member < count; member++) {
                int right = member;
                taken("luckIn(" + right + ", 1) of " + count, () -> mixed(count).luckIn(right, 1));
            }
        }
    }

    private static void luckInTooFewOrTooManyDays() {
        for (int wrong : Wrong.amounts(60)) {
            Expect.refusedByNew("luckIn(1, " + wrong + ")", () -> mixed(2), Wrong.ARGUMENT,
                    order -> order.luckIn(1, wrong));
        }
        taken("luckIn(1, 1)", () -> mixed(2).luckIn(1, 1));
        taken("luckIn(1, 60)", () -> mixed(2).luckIn(1, 60));
    }

    private static void luckInNamesNoMemberFirst() {
        for (int wrong : new int[] {-1, 2, 8}) {
            for (int days : new int[] {-1, 0, 61}) {
                Expect.refusedByNew("luckIn(" + wrong + ", " + days + ")", () -> mixed(2), Wrong.INDEX,
                        order -> order.luckIn(wrong, days));
            }
        }
    }
}
