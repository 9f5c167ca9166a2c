/**
 * Each boundary case that promises 1 to 8 name beside what they refuse (that is in RefusalsTest): what
 * members do.
 */
public final class ActsEdgesTest {
    public static void main(String[] args) {
        promise1WithoutMembers();
        promise1WithoutThrows();
        promise1InTheDay0();
        promise2ReturnsTheNumber();
        promise2AMemberWhoJoinsLateIsNew();
        promise3ArrearsAreAsManyMore();
        promise3ArrearsAre99AtMost();
        promise3ReturnsTheArrearsThen();
        promise4IsWrittenIntoTheLedger();
        promise4TakesTheLastSalt();
        promise4ReturnsItsExcess();
        promise5AsManyMore();
        promise5Has9LumpsAtMost();
        promise6BringsSalt();
        promise6WhatWouldBeAbove500IsLost();
        promise7FindsNone();
        promise7FindsAll();
        promise7IsHeldNow();
        promise7LeavesTheDaysAuditToCome();
        promise8OneDay();
        promise8SixtyDays();
        promise8ReturnsTheFaultsFoundInThem();
        promise8WithoutMembers();
        Expect.end();
    }

    /** "Creates an order without members". */
    private static void promise1WithoutMembers() {
        SaltOrder order = new SaltOrder();
        Expect.same("members()", order.members(), 0);
        Expect.same("luckiest()", order.luckiest(), -1);
        Expect.same("allArrears()", order.allArrears(), 0);
        Expect.same("clearMembers()", order.clearMembers(), 0);
        Expect.same("meanLuck()", order.meanLuck(), 0.0);
        Expect.refused("luckOf(0)", Wrong.INDEX, () -> order.luckOf(0));
    }

    private static void promise1WithoutThrows() {
        SaltOrder order = new SaltOrder();
        Expect.same("ledger()", order.ledger(), 0);
        Expect.same("faults()", order.faults(), 0);
        Expect.same("faultsFound()", order.faultsFound(), 0);
        Expect.same("audit()", order.audit(), 0);
        Expect.refused("memberOf(0)", Wrong.INDEX, () -> order.memberOf(0));
    }

    /** "in the day 0". */
    private static void promise1InTheDay0() {
        Expect.same("day()", new SaltOrder().day(), 0);
        Expect.same("daysUntilAudit()", new SaltOrder().daysUntilAudit(), 6);
    }

    private static void promise2ReturnsTheNumber() {
        SaltOrder order = new SaltOrder();
        for (int i = 0; i < 8; i++) {
            Expect.same("join()", order.join(), i);
            Expect.same("members()", order.members(), i + 1);
        }
    }

    private static void promise2AMemberWhoJoinsLateIsNew() {
        SaltOrder order = Orders.inArrears(99, 100);
        Orders.throwTimes(order, 30, 0, 1, 1);
        order.luckIn(0, 60);
        order.bestPenance(0);
        for (int member = 2; member < 8; member++) {
            Expect.same("join()", order.join(), member);
            Expect.same("luckOf(" + member + ")", order.luckOf(member), 50);
            Expect.same("arrearsOf(" + member + ")", order.arrearsOf(member), 0);
            Expect.same("lumpsOf(" + member + ")", order.lumpsOf(member), 0);
            Expect.same("arrearsByAudit(" + member + ")", order.arrearsByAudit(member), 0);
        }
    }

    /** "the arrears are as many grains more". */
    private static void promise3ArrearsAreAsManyMore() {
        for (int grains = 1; grains <= 30; grains++) {
            Expect.same("spill of 0", Orders.inArrears(0).spill(0, grains), grains);
            Expect.same("spill of 69", Orders.inArrears(69).spill(0, grains), 69 + grains);
        }
    }

    /** "at most 99". */
    private static void promise3ArrearsAre99AtMost() {
        for (int grains = 1; grains <= 30; grains++) {
            Expect.same("to 99 just", Orders.inArrears(99 - grains).spill(0, grains), 99);
            Expect.same("over 99 by 1", Orders.inArrears(100 - grains).spill(0, grains), 99);
            Expect.same("over 99 by all", Orders.inArrears(99).spill(0, grains), 99);
        }
    }

    /** "Returns the arrears then." */
    private static void promise3ReturnsTheArrearsThen() {
        for (int arrears : new int[] {0, 68, 69, 70, 98, 99}) {
            SaltOrder order = Orders.inArrears(arrears);
            int answered = order.spill(0, 30);
            Expect.same("arrearsOf(0)", order.arrearsOf(0), answered);
        }
    }

    /** "it is written into the ledger". */
    private static void promise4IsWrittenIntoTheLedger() {
        SaltOrder order = Orders.withMembers(8);
        for (int i = 0; i < 30; i++) {
            order.throwSalt(7, 1, 1);
            Expect.same("ledger()", order.ledger(), i + 1);
            Expect.same("memberOf the last", order.memberOf(i), 7);
        }
    }

    private static void promise4TakesTheLastSalt() {
        for (int shoulder = 0; shoulder <= 1; shoulder++) {
            SaltOrder order = Orders.inArrears(20, 9);
            order.throwSalt(0, shoulder, 8);
            Expect.same("salt() of 9 behind 8", order.salt(), 1);
            order.throwSalt(0, shoulder, 1);
            Expect.same("salt() of 1 behind 1", order.salt(), 0);
            Expect.same("ledger()", order.ledger(), 2);
        }
    }

    /** "Returns its excess": by the arrears that there were, which the throw before had made less. */
    private static void promise4ReturnsItsExcess() {
        SaltOrder order = Orders.inArrears(10);
        Expect.same("9 grains with 10", order.throwSalt(0, 0, 9), 0);
        Expect.same("1 grain to the right with 1", order.throwSalt(0, 1, 1), 1);
        Expect.same("1 grain with 1", order.throwSalt(0, 0, 1), 0);
        Expect.same("1 grain with 0", order.throwSalt(0, 0, 1), 1);
        Expect.same("9 grains with 0", order.throwSalt(0, 0, 9), 9);
    }

    /** "so many more are to be eaten". */
    private static void promise5AsManyMore() {
        for (int lumps = 1; lumps <= 9; lumps++) {
            SaltOrder order = Orders.withMembers(1);
            Expect.same("doPenance of 0", order.doPenance(0, lumps), lumps);
            Expect.same("lumpsOf(0)", order.lumpsOf(0), lumps);
        }
    }

    /** "at most 9". */
    private static void promise5Has9LumpsAtMost() {
        for (int had = 1; had <= 9; had++) {
            for (int more = 1; more <= 9; more++) {
                SaltOrder order = Orders.withMembers(1);
                order.doPenance(0, had);
                int due = had + more > 9 ? 9 : had + more;
                Expect.same("doPenance of " + had + " and " + more, order.doPenance(0, more), due);
                Expect.same("lumpsOf(0)", order.lumpsOf(0), due);
            }
        }
    }

    private static void promise6BringsSalt() {
        Expect.same("1 to 0", Orders.inArrears(0, 0).bringSalt(1), 1);
        Expect.same("500 to 0", Orders.inArrears(0, 0).bringSalt(500), 500);
        Expect.same("1 to 498", Orders.inArrears(0, 498).bringSalt(1), 499);
        Expect.same("1 to 499", Orders.inArrears(0, 499).bringSalt(1), 500);
    }

    /** "what would be above 500 is lost". */
    private static void promise6WhatWouldBeAbove500IsLost() {
        Expect.same("2 to 499", Orders.inArrears(0, 499).bringSalt(2), 500);
        Expect.same("500 to 1", Orders.inArrears(0, 1).bringSalt(500), 500);
        SaltOrder order = Orders.inArrears(0, 500);
        Expect.same("1 to 500", order.bringSalt(1), 500);
        Expect.same("500 to 500", order.bringSalt(500), 500);
        Expect.same("salt()", order.salt(), 500);
        order.spill(0, 30);
        Expect.same("salt() behind a spill", order.salt(), 470);
    }

    private static void promise7FindsNone() {
        Expect.same("audit() of an empty ledger", Orders.withMembers(8).audit(), 0);
        SaltOrder order = Orders.inArrears(30);
        Orders.throwTimes(order, 30, 0, 0, 1);
        Expect.same("audit() of 30 throws without excess", order.audit(), 0);
        Expect.same("arrearsOf(0)", order.arrearsOf(0), 0);
        Expect.same("ledger()", order.ledger(), 0);
    }

    private static void promise7FindsAll() {
        SaltOrder order = Orders.withMembers(8);
        for (int i = 0; i < 30; i++) {
            order.throwSalt(i % 8, i % 2, 1);
        }
        Expect.same("audit() of 30 faults", order.audit(), 30);
        for (int member = 0; member < 8; member++) {
            Expect.same("arrearsOf(" + member + ")", order.arrearsOf(member), member < 6 ? 8 : 6);
        }
        Expect.same("audit() once more", order.audit(), 0);
    }

    /** "an audit finds that is held now": it is held, and no day goes by in it. */
    private static void promise7IsHeldNow() {
        SaltOrder order = Orders.withMembers(1);
        order.doPenance(0, 2);
        order.throwSalt(0, 1, 4);
        Expect.same("audit()", order.audit(), 1);
        Expect.same("arrearsOf(0)", order.arrearsOf(0), 8);
        Expect.same("ledger()", order.ledger(), 0);
        Expect.same("faultsFound()", order.faultsFound(), 1);
        Expect.same("lumpsOf(0)", order.lumpsOf(0), 2);
        Expect.same("luckOf(0)", order.luckOf(0), 50);
        Expect.same("day()", order.day(), 0);
    }

    private static void promise7LeavesTheDaysAuditToCome() {
        SaltOrder order = Orders.inDay(6);
        order.throwSalt(0, 1, 1);
        Expect.same("audit() in the day 6", order.audit(), 1);
        Expect.same("daysUntilAudit()", order.daysUntilAudit(), 0);
        order.throwSalt(0, 1, 1);
        Expect.same("pass(1) in the day 6", order.pass(1), 1);
    }

    private static void promise8OneDay() {
        SaltOrder order = Orders.withMembers(1);
        Expect.same("pass(1)", order.pass(1), 0);
        Expect.same("day()", order.day(), 1);
        Expect.same("luckOf(0)", order.luckOf(0), 51);
    }

    private static void promise8SixtyDays() {
        SaltOrder order = Orders.withMembers(2);
        order.spill(0, 1);
        order.doPenance(1, 9);
        Expect.same("pass(60)", order.pass(60), 0);
        Expect.same("day()", order.day(), 60);
        Expect.same("luckOf(0)", order.luckOf(0), 0);
        Expect.same("luckOf(1)", order.luckOf(1), 100);
        Expect.same("pass(60) again", order.pass(60), 0);
        Expect.same("day()", order.day(), 120);
    }

    /** "Returns how many faults are found in them": not those of an audit ahead of them. */
    private static void promise8ReturnsTheFaultsFoundInThem() {
        SaltOrder order = Orders.withMembers(1);
        Orders.throwTimes(order, 2, 0, 1, 1);
        order.audit();
        Orders.throwTimes(order, 30, 0, 1, 1);
        Expect.same("pass(6)", order.pass(6), 0);
        Expect.same("pass(60), 9 audits", order.pass(60), 30);
        Expect.same("pass(60), 9 audits of nothing", order.pass(60), 0);
        Expect.same("faultsFound()", order.faultsFound(), 32);
    }

    private static void promise8WithoutMembers() {
        SaltOrder order = new SaltOrder();
        Expect.same("pass(60)", order.pass(60), 0);
        Expect.same("day()", order.day(), 60);
        Expect.same("join()", order.join(), 0);
    }
}
