/**
 * Each boundary case that promises 9 to 27 name beside what they refuse (that is in RefusalsTest): what is
 * asked of members and of the ledger.
 */
public final class TellsEdgesTest {
    public static void main(String[] args) {
        promise9Day();
        promise10Members();
        promise11Luck();
        promise12Arrears();
        promise13Lumps();
        promise14CostsAsADayWould();
        promise14IsNoneWithoutArrears();
        promise14IsNoneWithLumps();
        promise14DoesNotLookAtWhatIsLeft();
        promise14IsWithArrearsAsNow();
        promise15HasTheMostLuck();
        promise15OfSeveralTheSmallestNumber();
        promise15IsMinus1WithoutMembers();
        promise15OfThoseWithoutLuck();
        promise16OfNone();
        promise16OfAll();
        promise17OfNone();
        promise17OfAll();
        promise18Salt();
        promise19Ledger();
        promises20To23TheFirstAndTheLast();
        promise24OfNone();
        promise24OfAll();
        promise24WithoutExcess();
        promise25WithoutThrows();
        promise25WithoutABound();
        promise25IsOnlyOfThisOne();
        promise25ChangesNothing();
        promise26Is0InTheDaysOfAudits();
        promise26Is6BehindThem();
        promise26IsOfStep1Only();
        promise27IsOfAll();
        Expect.end();
    }

    private static void promise9Day() {
        for (int days : new int[] {0, 1, 59, 60, 61, 6000}) {
            Expect.same("day()", Orders.inDay(days).day(), days);
        }
    }

    private static void promise10Members() {
        for (int members = 0; members <= 8; members++) {
            Expect.same("members()", Orders.withMembers(members).members(), members);
        }
        SaltOrder full = Orders.withMembers(8);
        Expect.refused("the 9th join()", Wrong.STATE, () -> full.join());
        Expect.same("members() behind a refused join()", full.members(), 8);
    }

    private static void promise11Luck() {
        for (int luck : new int[] {0, 1, 49, 50, 51, 99, 100}) {
            Expect.same("luckOf(0)", Orders.withLuck(luck, 0).luckOf(0), luck);
        }
    }

    private static void promise12Arrears() {
        for (int arrears : new int[] {0, 1, 98, 99}) {
            Expect.same("arrearsOf(0)", Orders.inArrears(arrears).arrearsOf(0), arrears);
        }
    }

    private static void promise13Lumps() {
        for (int lumps = 1; lumps <= 9; lumps++) {
            SaltOrder order = Orders.withMembers(1);
            Expect.same("lumpsOf(0) at first", order.lumpsOf(0), 0);
            order.doPenance(0, lumps);
            Expect.same("lumpsOf(0)", order.lumpsOf(0), lumps);
        }
    }

    /** "by 1 for each 10 arrears or a part of 10". */
    private static void promise14CostsAsADayWould() {
        for (int arrears = 1; arrears <= 99; arrears++) {
            SaltOrder order = Orders.inArrears(arrears);
            int loss = order.dailyLoss(0);
            order.pass(1);
            Expect.same("dailyLoss(0) with " + arrears, loss, 50 - order.luckOf(0));
        }
        int[] arrears = {1, 10, 11, 20, 21, 90, 91, 99};
        int[] due = {1, 1, 2, 2, 3, 9, 10, 10};
        for (int i = 0; i < due.length; i++) {
            Expect.same("dailyLoss(0) with " + arrears[i], Orders.inArrears(arrears[i]).dailyLoss(0), due[i]);
        }
    }

    /** "0 if none". */
    private static void promise14IsNoneWithoutArrears() {
        Expect.same("dailyLoss(0) without arrears", Orders.inArrears(0).dailyLoss(0), 0);
        Expect.same("dailyLoss(0) with luck 100", Orders.withLuck(100, 0).dailyLoss(0), 0);
    }

    private static void promise14IsNoneWithLumps() {
        for (int arrears : new int[] {0, 1, 3, 4, 99}) {
            SaltOrder order = Orders.inArrears(arrears);
            order.doPenance(0, 1);
            Expect.same("dailyLoss(0) with a lump", order.dailyLoss(0), 0);
            order.doPenance(0, 9);
            Expect.same("dailyLoss(0) with 9 lumps", order.dailyLoss(0), 0);
        }
    }

    /** "(what is left is not looked at)". */
    private static void promise14DoesNotLookAtWhatIsLeft() {
        for (int luck : new int[] {0, 1, 9, 10}) {
            Expect.same("dailyLoss(0) of " + luck, Orders.withLuck(luck, 99).dailyLoss(0), 10);
        }
    }

    /** "if arrears and lumps were as now": what an audit in this day adds does not count. */
    private static void promise14IsWithArrearsAsNow() {
        SaltOrder order = Orders.inDay(6);
        order.throwSalt(0, 1, 9);
        Expect.same("dailyLoss(0)", order.dailyLoss(0), 0);
        order.spill(0, 10);
        Expect.same("dailyLoss(0) with 10", order.dailyLoss(0), 1);
    }

    private static void promise15HasTheMostLuck() {
        for (int best = 0; best < 8; best++) {
            SaltOrder order = Orders.withMembers(8);
            for (int member = 0; member < 8; member++) {
                if (member != best) {
                    order.spill(member, 1);
                }
            }
            order.pass(1);
            Expect.same("luckiest()", order.luckiest(), best);
        }
    }

    /** "of several the smallest number". */
    private static void promise15OfSeveralTheSmallestNumber() {
        SaltOrder order = Orders.withMembers(8);
        for (int member = 0; member < 7; member++) {
            Expect.same("luckiest()", order.luckiest(), member);
            order.spill(member, 1);
            order.pass(1);
        }
        Expect.same("luckiest()", order.luckiest(), 7);
        Expect.same("luckiest() of 100s", allWithLuck100().luckiest(), 0);
    }

    private static SaltOrder allWithLuck100() {
        SaltOrder order = Orders.withMembers(8);
        order.pass(60);
        return order;
    }

    /** "-1 without members". */
    private static void promise15IsMinus1WithoutMembers() {
        SaltOrder order = new SaltOrder();
        Expect.same("luckiest() without members", order.luckiest(), -1);
        order.join();
        Expect.same("luckiest() of one", order.luckiest(), 0);
    }

    private static SaltOrder allWithoutLuck() {
        SaltOrder order = Orders.withMembers(8);
        for (int member = 0; member < 8; member++) {
            order.spill(member, 1);
        }
        order.pass(60);
        return order;
    }

    private static void promise15OfThoseWithoutLuck() {
        SaltOrder order = allWithoutLuck();
        Expect.same("luckOf(0)", order.luckOf(0), 0);
        Expect.same("luckiest() of those without luck", order.luckiest(), 0);
        Expect.same("luckiest() of one without luck", Orders.withLuck(0, 1).luckiest(), 0);
    }

    private static void promise16OfNone() {
        Expect.same("allArrears() without members", new SaltOrder().allArrears(), 0);
        SaltOrder order = Orders.withMembers(8);
        order.bestPinch(7);
        Expect.same("allArrears() without arrears", order.allArrears(), 0);
    }

    private static SaltOrder allWith99() {
        SaltOrder order = Orders.withMembers(8);
        for (int member = 0; member < 8; member++) {
            order.bringSalt(500);
            Orders.spillInParts(order, member, 120);
        }
        return order;
    }

    private static void promise16OfAll() {
        SaltOrder order = allWith99();
        Expect.same("allArrears() of 99s", order.allArrears(), 792);
        order.luckIn(0, 60);
        Expect.same("allArrears() of 99s behind a question", order.allArrears(), 792);
    }

    private static void promise17OfNone() {
        Expect.same("clearMembers() without members", new SaltOrder().clearMembers(), 0);
        Expect.same("clearMembers() of 99s", allWith99().clearMembers(), 0);
        SaltOrder order = Orders.inArrears(1);
        Expect.same("clearMembers() with 1 and many", order.clearMembers(), 0);
    }

    private static void promise17OfAll() {
        SaltOrder order = Orders.withMembers(8);
        Expect.same("clearMembers() of 8", order.clearMembers(), 8);
        for (int member = 0; member < 8; member++) {
            order.spill(member, 1);
            Expect.same("clearMembers()", order.clearMembers(), 7 - member);
        }
        for (int member = 0; member < 8; member++) {
            order.throwSalt(member, 0, 1);
            Expect.same("clearMembers() again", order.clearMembers(), 1 + member);
        }
    }

    private static void promise18Salt() {
        for (int salt : new int[] {0, 1, 99, 100, 499, 500}) {
            Expect.same("salt()", Orders.inArrears(0, salt).salt(), salt);
        }
    }

    private static SaltOrder withThrows(int times, int shoulder) {
        SaltOrder order = Orders.withMembers(2);
        Orders.spillInParts(order, 0, 30);
        Orders.throwTimes(order, times, 0, shoulder, 1);
        return order;
    }

    private static void promise19Ledger() {
        for (int times = 0; times <= 30; times++) {
            Expect.same("ledger()", withThrows(times, 0).ledger(), times);
            Expect.same("ledger(), to the right", withThrows(times, 1).ledger(), times);
        }
    }

    private static void promises20To23TheFirstAndTheLast() {
        SaltOrder order = Orders.withMembers(8);
        order.throwSalt(7, 0, 9);
        Orders.throwTimes(order, 28, 3, 1, 1);
        order.throwSalt(1, 1, 8);
        int[] entries = {0, 1, 28, 29};
        int[] members = {7, 3, 3, 1};
        int[] grains = {9, 1, 1, 8};
        for (int i = 0; i < entries.length; i++) {
            Expect.same("memberOf(" + entries[i] + ")", order.memberOf(entries[i]), members[i]);
            Expect.same("isLeft(" + entries[i] + ")", order.isLeft(entries[i]), i == 0);
            Expect.same("grainsOf(" + entries[i] + ")", order.grainsOf(entries[i]), grains[i]);
            Expect.same("excessOf(" + entries[i] + ")", order.excessOf(entries[i]), grains[i]);
        }
        SaltOrder without = withThrows(1, 0);
        Expect.same("excessOf(0) without excess", without.excessOf(0), 0);
    }

    private static void promise24OfNone() {
        Expect.same("faults() without throws", new SaltOrder().faults(), 0);
        SaltOrder order = withThrows(30, 1);
        order.audit();
        Expect.same("faults() behind an audit", order.faults(), 0);
    }

    private static void promise24OfAll() {
        SaltOrder order = withThrows(30, 1);
        Expect.same("faults() of 30", order.faults(), 30);
        Expect.same("ledger() behind faults()", order.ledger(), 30);
        Expect.same("faultsFound() behind faults()", order.faultsFound(), 0);
    }

    private static void promise24WithoutExcess() {
        Expect.same("faults() of 30 without excess", withThrows(30, 0).faults(), 0);
        SaltOrder order = withThrows(29, 0);
        order.throwSalt(0, 0, 2);
        Expect.same("faults() with an excess of 1", order.faults(), 1);
    }

    private static void promise25WithoutThrows() {
        Expect.same("arrearsByAudit(0)", Orders.withMembers(1).arrearsByAudit(0), 0);
        Expect.same("arrearsByAudit(0) without excess", withThrows(30, 0).arrearsByAudit(0), 0);
    }

    /** "if there was no bound". */
    private static void promise25WithoutABound() {
        SaltOrder order = Orders.inArrears(99);
        order.throwSalt(0, 1, 9);
        Expect.same("arrearsByAudit(0) with 99", order.arrearsByAudit(0), 18);
        Orders.throwTimes(order, 29, 0, 1, 9);
        Expect.same("arrearsByAudit(0) with 99 and 30 faults", order.arrearsByAudit(0), 540);
        order.audit();
        Expect.same("arrearsOf(0)", order.arrearsOf(0), 99);
    }

    private static void promise25IsOnlyOfThisOne() {
        SaltOrder order = Orders.withMembers(8);
        order.throwSalt(0, 1, 1);
        order.throwSalt(7, 0, 9);
        order.throwSalt(0, 0, 2);
        int[] due = {6, 0, 0, 0, 0, 0, 0, 18};
        for (int member = 0; member < 8; member++) {
            Expect.same("arrearsByAudit(" + member + ")", order.arrearsByAudit(member), due[member]);
        }
    }

    /** "(nothing is changed)". */
    private static void promise25ChangesNothing() {
        SaltOrder order = withThrows(30, 1);
        String before = Answers.of(order);
        order.arrearsByAudit(0);
        order.arrearsByAudit(1);
        Expect.same("all answers behind arrearsByAudit", Answers.of(order), before);
    }

    /** "0 if in this day". */
    private static void promise26Is0InTheDaysOfAudits() {
        for (int day : new int[] {6, 13, 20, 27, 6 + 7 * 500}) {
            Expect.same("daysUntilAudit() in the day " + day, Orders.inDay(day).daysUntilAudit(), 0);
            Expect.same("daysUntilAudit() a day ahead", Orders.inDay(day - 1).daysUntilAudit(), 1);
        }
    }

    private static void promise26Is6BehindThem() {
        for (int day : new int[] {0, 7, 14, 21, 7 * 500}) {
            Expect.same("daysUntilAudit() in the day " + day, Orders.inDay(day).daysUntilAudit(), 6);
            Expect.same("daysUntilAudit() a day on", Orders.inDay(day + 1).daysUntilAudit(), 5);
        }
    }

    /** "the next audit of step 1": not one that is called. */
    private static void promise26IsOfStep1Only() {
        for (int day = 0; day < 7; day++) {
            SaltOrder order = Orders.inDay(day);
            order.throwSalt(0, 1, 1);
            order.audit();
            Expect.same("daysUntilAudit() behind audit()", order.daysUntilAudit(), 6 - day);
        }
    }

    /** "how many faults were found in all". */
    private static void promise27IsOfAll() {
        Expect.same("faultsFound() at first", new SaltOrder().faultsFound(), 0);
        SaltOrder order = withThrows(30, 1);
        Expect.same("faultsFound() ahead of an audit", order.faultsFound(), 0);
        order.audit();
        Expect.same("faultsFound() behind audit()", order.faultsFound(), 30);
        order.bringSalt(500);
        Orders.throwTimes(order, 30, 1, 1, 9);
        order.pass(7);
        Expect.same("faultsFound() behind a day's audit", order.faultsFound(), 60);
        order.audit();
        order.pass(60);
        Expect.same("faultsFound() behind audits of nothing", order.faultsFound(), 60);
    }
}
