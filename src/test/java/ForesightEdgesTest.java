import java.math.BigInteger;
import java.util.List;

/**
 * Each boundary case that promises 28 to 34 name beside what they refuse (that is in RefusalsTest): what
 * would be.
 */
public final class ForesightEdgesTest {
    public static void main(String[] args) {
        promise28OneDayAndSixty();
        promise28IsBounded();
        promise28KnowsTheAuditOfTheFirstAndTheLastDay();
        promise28AuditsTo99AtMost();
        promise28AuditsOnce();
        promise28IsAsDaysThatPass();
        promise29Is0IfThereAreNoneNow();
        promise29CountsTheLumps();
        promise29KnowsTheAudit();
        promise30Is0IfThereIsNoneNow();
        promise30Is60AtMost();
        promise30IsMinus1BehindThem();
        promise30KnowsTheAudit();
        promise31Is0ForNone();
        promise31Is9AtMost();
        promise31IsAsManyAsTheCellarHas();
        promise31LooksBehind14Days();
        promise31OfSeveralTheFewest();
        promise31Is0IfTheLedgerHas30();
        promise31CountsTheExcess();
        promise31CountsTheLedgerToo();
        promise32Is0To9();
        promise32LooksBehind20Days();
        promise32OfSeveralTheFewest();
        promise32Has9LumpsAtMost();
        promises28To34ChangeNothing();
        promise33WithoutMembers();
        promise33OfTheBounds();
        promise33IsNoWholeNumber();
        promise34OfANewOrder();
        promise34OfMembersWithoutThrows();
        promise34WrapsAround();
        promise34OfAFullOrderWithAFullLedger();
        promise34CountsWhetherItIsLeft();
        Expect.end();
    }

    // ---- luckIn

    private static void promise28OneDayAndSixty() {
        Expect.same("luckIn(0, 1)", Orders.inArrears(99).luckIn(0, 1), 40);
        SaltOrder order = Orders.inDay(10);
        order.spill(0, 1);
        Expect.same("luckIn(0, 59) of 60", order.luckIn(0, 59), 1);
        Expect.same("luckIn(0, 60) of 60", order.luckIn(0, 60), 0);
    }

    private static void promise28IsBounded() {
        Expect.same("luckIn(0, 1) of 99", Orders.withLuck(99, 0).luckIn(0, 1), 100);
        Expect.same("luckIn(0, 2) of 99", Orders.withLuck(99, 0).luckIn(0, 2), 100);
        Expect.same("luckIn(0, 60) of 100", Orders.withLuck(100, 0).luckIn(0, 60), 100);
        Expect.same("luckIn(0, 1) of 10 with 99", Orders.withLuck(10, 99).luckIn(0, 1), 0);
        Expect.same("luckIn(0, 1) of 9 with 99", Orders.withLuck(9, 99).luckIn(0, 1), 0);
        Expect.same("luckIn(0, 60) of 0 with 99", Orders.withLuck(0, 99).luckIn(0, 60), 0);
    }

    private static void promise28KnowsTheAuditOfTheFirstAndTheLastDay() {
        for (int day = 0; day < 14; day++) {
            SaltOrder order = Orders.inDay(day);
            order.throwSalt(0, 1, 1);
            int until = 6 - day % 7;
            int luck = 50 + day + until;
            if (until > 0) {
                Expect.same("luckIn(0, " + until + "), the audit's day not in it", order.luckIn(0, until), luck);
            }
            Expect.same("luckIn(0, " + (until + 1) + "), the audit's day in it", order.luckIn(0, until + 1), luck - 1);
        }
    }

    private static void promise28AuditsTo99AtMost() {
        SaltOrder order = Orders.withMembers(1);
        order.bringSalt(500);
        Orders.throwTimes(order, 30, 0, 1, 9);
        order.pass(6);
        order.doPenance(0, 9);
        Expect.same("luckIn(0, 9)", order.luckIn(0, 9), 56);
        Expect.same("luckIn(0, 10), 99 less 27", order.luckIn(0, 10), 48);
    }

    private static void promise28AuditsOnce() {
        SaltOrder order = Orders.withMembers(1);
        order.throwSalt(0, 1, 5);
        Expect.same("luckIn(0, 13), audited once", order.luckIn(0, 13), 56 - 7);
        Expect.same("luckIn(0, 14), two days of audits", order.luckIn(0, 14), 56 - 8);
        Expect.same("luckIn(0, 21), three days of audits", order.luckIn(0, 21), 56 - 15);
    }

    /** An order in which all three members' days differ, in the day 3. */
    private static SaltOrder busy() {
        SaltOrder order = Orders.withMembers(3);
        order.bringSalt(500);
        order.pass(3);
        order.spill(0, 17);
        order.doPenance(0, 7);
        order.throwSalt(0, 0, 9);
        order.throwSalt(1, 0, 6);
        order.throwSalt(1, 1, 2);
        order.doPenance(2, 2);
        order.throwSalt(2, 1, 1);
        return order;
    }

    /** "Returns the luck behind them, if nothing else is done". */
    private static void promise28IsAsDaysThatPass() {
        for (int days = 1; days <= 60; days++) {
            SaltOrder later = busy();
            later.pass(days);
            for (int member = 0; member < 3; member++) {
                Expect.same("luckIn(" + member + ", " + days + ")", busy().luckIn(member, days), later.luckOf(member));
            }
        }
    }

    // ---- daysUntilClear

    /** "0 if there are none now". */
    private static void promise29Is0IfThereAreNoneNow() {
        Expect.same("of none", Orders.withMembers(1).daysUntilClear(0), 0);
        SaltOrder order = Orders.inDay(6);
        order.throwSalt(0, 1, 9);
        order.doPenance(0, 9);
        Expect.same("of none, in the day of an audit", order.daysUntilClear(0), 0);
        Expect.same("of 1", Orders.inArrears(1).daysUntilClear(0), -1);
    }

    /** "-1 if there are some till then": only sugar makes up for arrears if nothing else is done. */
    private static void promise29CountsTheLumps() {
        for (int lumps = 1; lumps <= 9; lumps++) {
            int[] arrears = {3 * lumps - 3, 3 * lumps - 2, 3 * lumps, 3 * lumps + 1, 99};
            int[] due = {lumps - 1, lumps, lumps, -1, -1};
            for (int i = 0; i < due.length; i++) {
                SaltOrder order = Orders.inArrears(arrears[i]);
                order.doPenance(0, lumps);
                Expect.same("of " + arrears[i] + " with " + lumps, order.daysUntilClear(0), due[i]);
            }
        }
    }

    private static void promise29KnowsTheAudit() {
        int[] days = {5, 6, 7};
        int[] dueWithOneLump = {1, -1, 1};
        int[] dueWithTwo = {1, 2, 1};
        for (int i = 0; i < days.length; i++) {
            SaltOrder order = Orders.inDay(days[i]);
            order.throwSalt(0, 1, 1);
            order.spill(0, 3);
            order.doPenance(0, 1);
            Expect.same("in the day " + days[i] + " with 1", order.daysUntilClear(0), dueWithOneLump[i]);
            order.doPenance(0, 1);
            Expect.same("in the day " + days[i] + " with 2", order.daysUntilClear(0), dueWithTwo[i]);
        }
    }

    // ---- daysUntilUnlucky

    /** "0 if there is none now". */
    private static void promise30Is0IfThereIsNoneNow() {
        Expect.same("of 0 with 1", Orders.withLuck(0, 1).daysUntilUnlucky(0), 0);
        Expect.same("of 0 without arrears", Orders.withLuck(0, 0).daysUntilUnlucky(0), 0);
        Expect.same("of 1 with 1", Orders.withLuck(1, 1).daysUntilUnlucky(0), 1);
        Expect.same("of 1 with 99", Orders.withLuck(1, 99).daysUntilUnlucky(0), 1);
        Expect.same("of 1 without arrears", Orders.withLuck(1, 0).daysUntilUnlucky(0), -1);
    }

    /** "at most 60". */
    private static void promise30Is60AtMost() {
        Expect.same("of 59 with 1", Orders.withLuck(59, 1).daysUntilUnlucky(0), 59);
        Expect.same("of 60 with 1", Orders.withLuck(60, 1).daysUntilUnlucky(0), 60);
        SaltOrder eating = Orders.withLuck(51, 28);
        eating.doPenance(0, 9);
        Expect.same("of 51 with 28 and 9 lumps", eating.daysUntilUnlucky(0), 60);
    }

    /** "-1 if there is some till then". */
    private static void promise30IsMinus1BehindThem() {
        Expect.same("of 61 with 1", Orders.withLuck(61, 1).daysUntilUnlucky(0), -1);
        SaltOrder eating = Orders.withLuck(52, 28);
        eating.doPenance(0, 9);
        Expect.same("of 52 with 28 and 9 lumps", eating.daysUntilUnlucky(0), -1);
        Expect.same("of 100 with 11", Orders.withLuck(100, 11).daysUntilUnlucky(0), 50);
        Expect.same("of 50 without arrears", Orders.withMembers(1).daysUntilUnlucky(0), -1);
    }

    /** The audit's 540 are cut to 99: with them a day costs 10. */
    private static void promise30KnowsTheAudit() {
        int[] days = {5, 6, 7};
        int[] due = {7, 6, 13};
        for (int i = 0; i < days.length; i++) {
            SaltOrder order = Orders.inDay(days[i]);
            order.bringSalt(500);
            Orders.throwTimes(order, 30, 0, 1, 9);
            Expect.same("in the day " + days[i], order.daysUntilUnlucky(0), due[i]);
        }
    }

    // ---- bestPinch

    /** "0 for none". */
    private static void promise31Is0ForNone() {
        for (int arrears : new int[] {0, 10, 20, 90}) {
            Expect.same("of " + arrears, Orders.inArrears(arrears).bestPinch(0), 0);
        }
    }

    /** "at most 9". */
    private static void promise31Is9AtMost() {
        int[] arrears = {8, 9, 10, 18, 19, 20, 29, 30, 39};
        int[] due = {8, 9, 0, 8, 9, 0, 9, 0, 9};
        for (int i = 0; i < due.length; i++) {
            Expect.same("of " + arrears[i], Orders.inArrears(arrears[i]).bestPinch(0), due[i]);
        }
    }

    /** "and as many as the cellar has". */
    private static void promise31IsAsManyAsTheCellarHas() {
        for (int grains = 1; grains <= 9; grains++) {
            Expect.same("of " + grains + " and as much salt",
                    Orders.inArrears(grains, grains).bestPinch(0), grains);
            Expect.same("of " + grains + " and 1 less salt",
                    Orders.inArrears(grains, grains - 1).bestPinch(0), 0);
            Expect.same("of " + (10 + grains) + " and as much salt",
                    Orders.inArrears(10 + grains, grains).bestPinch(0), grains);
        }
        Expect.same("of 5 without salt", Orders.inArrears(5, 0).bestPinch(0), 0);
    }

    /** "behind 14 days". */
    private static void promise31LooksBehind14Days() {
        Expect.same("of luck 15 with 11", Orders.withLuck(15, 11).bestPinch(0), 1);
        Expect.same("of luck 14 with 11", Orders.withLuck(14, 11).bestPinch(0), 0);
    }

    /** "of several the fewest". */
    private static void promise31OfSeveralTheFewest() {
        int[] arrears = {11, 12, 13, 18, 21, 25};
        int[] due = {1, 2, 3, 8, 1, 5};
        for (int i = 0; i < due.length; i++) {
            Expect.same("of " + arrears[i], Orders.inArrears(arrears[i]).bestPinch(0), due[i]);
        }
        SaltOrder sweet = Orders.inArrears(20);
        sweet.doPenance(0, 7);
        Expect.same("of 20 and 7 lumps", sweet.bestPinch(0), 0);
        Expect.same("of 99, all luck lost in any case", Orders.withLuck(1, 99).bestPinch(0), 0);
    }

    /** "0 if the ledger has 30 throws". */
    private static void promise31Is0IfTheLedgerHas30() {
        for (int times = 28; times <= 30; times++) {
            SaltOrder order = Orders.inArrears(5);
            Orders.throwTimes(order, times, 1, 1, 1);
            Expect.same("with " + times + " throws", order.bestPinch(0), times == 30 ? 0 : 5);
        }
    }

    private static void promise31CountsTheExcess() {
        SaltOrder ahead = Orders.inDay(6);
        ahead.spill(0, 4);
        Expect.same("of 4, in the day of an audit", ahead.bestPinch(0), 4);
        SaltOrder sweet = Orders.inDay(6);
        sweet.spill(0, 14);
        sweet.doPenance(0, 1);
        Expect.same("of 14 and a lump", sweet.bestPinch(0), 1);
        SaltOrder behind = Orders.inDay(0);
        behind.throwSalt(0, 1, 1);
        behind.spill(0, 9);
        Expect.same("of 9, 2 more in 6 days", behind.bestPinch(0), 9);
    }

    /** What an audit would add already decides too: with 20 behind it a day costs 2, with 21 to 30 it costs 3. */
    private static void promise31CountsTheLedgerToo() {
        SaltOrder more = Orders.inArrears(13);
        more.throwSalt(0, 1, 7);
        Expect.same("of 13, 14 more in 6 days", more.bestPinch(0), 7);
        SaltOrder none = Orders.inArrears(2);
        none.throwSalt(0, 1, 6);
        Expect.same("of 2, 12 more in 6 days", none.bestPinch(0), 2);
        SaltOrder others = Orders.inArrears(13);
        others.throwSalt(1, 1, 7);
        Expect.same("of 13, another's 14 more in 6 days", others.bestPinch(0), 3);
    }

    // ---- bestPenance

    /** "0 to 9": up to 27 arrears, what just makes up for them leaves the most days that bring luck. */
    private static void promise32Is0To9() {
        Expect.same("of 0", Orders.inArrears(0).bestPenance(0), 0);
        for (int lumps = 1; lumps <= 9; lumps++) {
            Expect.same("of " + (3 * lumps - 2), Orders.inArrears(3 * lumps - 2).bestPenance(0), lumps);
            Expect.same("of " + 3 * lumps, Orders.inArrears(3 * lumps).bestPenance(0), lumps);
        }
        Expect.same("of 99", Orders.inArrears(99).bestPenance(0), 0);
    }

    /** "behind 20 days". */
    private static void promise32LooksBehind20Days() {
        Expect.same("of luck 23 with 40", Orders.withLuck(23, 40).bestPenance(0), 9);
        Expect.same("of luck 22 with 40", Orders.withLuck(22, 40).bestPenance(0), 0);
    }

    /** "of several the fewest". */
    private static void promise32OfSeveralTheFewest() {
        Expect.same("of luck 100", Orders.withLuck(100, 0).bestPenance(0), 0);
        Expect.same("of luck 0 with 99", Orders.withLuck(0, 99).bestPenance(0), 0);
        Expect.same("of luck 1 with 99", Orders.withLuck(1, 99).bestPenance(0), 0);
    }

    /** Of lumps "at most 9" are to be eaten: those above the bound are as none. */
    private static void promise32Has9LumpsAtMost() {
        for (int had = 1; had <= 9; had++) {
            SaltOrder order = Orders.inArrears(27);
            order.doPenance(0, had);
            Expect.same("of 27 and " + had + " lumps", order.bestPenance(0), 9 - had);
        }
    }

    /** "(nothing is changed)". */
    private static void promises28To34ChangeNothing() {
        SaltOrder order = busy();
        String before = Answers.of(order);
        for (int member = 0; member < 3; member++) {
            order.luckIn(member, 60);
            order.daysUntilClear(member);
            order.daysUntilUnlucky(member);
            order.bestPinch(member);
            order.bestPenance(member);
        }
        order.meanLuck();
        order.digest();
        Expect.same("all answers behind questions", Answers.of(order), before);
        SaltOrder other = busy();
        other.pass(30);
        order.pass(30);
        Expect.same("all answers 30 days on", Answers.of(order), Answers.of(other));
    }

    // ---- meanLuck

    /** "0 without any". */
    private static void promise33WithoutMembers() {
        SaltOrder order = new SaltOrder();
        Expect.same("meanLuck()", order.meanLuck(), 0.0);
        order.join();
        Expect.same("meanLuck() of one", order.meanLuck(), 50.0);
    }

    private static void promise33OfTheBounds() {
        Expect.same("meanLuck() of 0", Orders.withLuck(0, 1).meanLuck(), 0.0);
        Expect.same("meanLuck() of 100", Orders.withLuck(100, 0).meanLuck(), 100.0);
        SaltOrder full = Orders.withMembers(8);
        full.pass(60);
        Expect.same("meanLuck() of 8 times 100", full.meanLuck(), 100.0);
        full.bestPinch(7);
        full.bestPenance(7);
        Expect.same("meanLuck() of a full order behind questions", full.meanLuck(), 100.0);
    }

    private static void promise33IsNoWholeNumber() {
        for (int members = 2; members <= 8; members++) {
            SaltOrder order = Orders.withMembers(members);
            order.spill(0, 1);
            order.pass(1);
            double due = (49 + 51 * (members - 1)) / (double) members;
            Expect.same("meanLuck() of " + members, order.meanLuck(), due);
        }
    }

    // ---- digest

    /** "A number d starts with 2011"; luckiest() is -1 without members. */
    private static void promise34OfANewOrder() {
        Expect.same("digest() of a new order", new SaltOrder().digest(), 1715166739208920L);
        digestIsOfTheAnswers(new SaltOrder());
    }

    private static void promise34OfMembersWithoutThrows() {
        for (int members = 1; members <= 8; members++) {
            digestIsOfTheAnswers(Orders.withMembers(members));
        }
    }

    /** "which wraps around as a 64-bit integer". */
    private static void promise34WrapsAround() {
        SaltOrder order = Orders.withMembers(1);
        BigInteger unwrapped = Answers.unwrapped(Answers.digested(order));
        Expect.same("bits of the unwrapped checksum, 65 or more", unwrapped.bitLength() >= 65, true);
        Expect.same("digest() that wrapped around", order.digest(), unwrapped.longValue());
        boolean negative = false;
        boolean positive = false;
        for (int days = 0; days < 14; days++) {
            long digest = order.digest();
            negative |= digest < 0;
            positive |= digest > 0;
            digestIsOfTheAnswers(order);
            order.pass(1);
        }
        Expect.same("checksums below and above 0", negative && positive, true);
    }

    private static void promise34OfAFullOrderWithAFullLedger() {
        SaltOrder order = Orders.withMembers(8);
        order.bringSalt(500);
        order.pass(5);
        for (int i = 0; i < 30; i++) {
            order.spill(i % 8, 1 + i % 4);
            order.throwSalt(i * 5 % 8, i % 2, 1 + i % 9);
        }
        order.doPenance(3, 4);
        digestIsOfTheAnswers(order);
        order.pass(2);
        digestIsOfTheAnswers(order);
    }

    /** "(whether something is so counts 1 or 0)". */
    private static void promise34CountsWhetherItIsLeft() {
        for (int shoulder = 0; shoulder <= 1; shoulder++) {
            SaltOrder order = Orders.withMembers(1);
            order.throwSalt(0, shoulder, 3);
            List<Integer> numbers = Answers.digested(order);
            Expect.same("isLeft(0)'s number", numbers.get(numbers.size() - 3), 1 - shoulder);
            digestIsOfTheAnswers(order);
        }
    }

    private static void digestIsOfTheAnswers(SaltOrder order) {
        long due = Answers.unwrapped(Answers.digested(order)).longValue();
        Expect.same("digest()", order.digest(), due);
    }
}
