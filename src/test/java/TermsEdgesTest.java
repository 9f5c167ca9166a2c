/** Each sentence of "What it is" and of "Terms" that names a boundary case, in the document's order. */
public final class TermsEdgesTest {
    public static void main(String[] args) {
        the512thCallIsAnsweredYet();
        manyCallsOfTheOneOrderLeaveAnotherAlone();
        daysAreToldFrom0();
        membersAreAtMost8();
        membersAreNumberedFrom0();
        luckIs0AtLeast();
        luckIs100AtMost();
        luckIs50AtFirst();
        arrearsAre0AtLeast();
        arrearsAre99AtMost();
        arrearsAre0AtFirst();
        lumpsAre0AtLeast();
        lumpsAre9AtMost();
        lumpsAre0AtFirst();
        shouldersAre0And1();
        theCellarHas0AtLeast();
        theCellarHas500AtMost();
        theCellarHas100AtFirst();
        whatIsSpiltOrThrownIsTakenOut();
        throwsAreOf1To9Grains();
        leftThrowsLessenArrearsTo0AtLeast();
        rightThrowsDoNothing();
        theExcessOfLeftThrowsIsWhatWasMore();
        theExcessOfRightThrowsIsAll();
        theLedgerHas30ThrowsAtMost();
        throwsAreNumberedFrom0InTheirOrder();
        aThrowWithAnExcessIsAFault();
        anAuditAddsTwiceTheExcess();
        anAuditAddsTo99AtMost();
        anAuditBoundsAtEachThrow();
        theLedgerIsEmptyBehindAnAudit();
        auditsAreInTheDays6And13AndSoOn();
        auditsOfManyDaysAreHeldInTheirDays();
        aMemberWithLumpsEatsOne();
        eatingTakes3ArrearsTo0AtLeast();
        eatingLeavesLuckAlone();
        aMemberWithArrearsHasLessLuck();
        lossesLeave0LuckAtLeast();
        aMemberWithoutBothHas1MoreLuck();
        gainsLead100LuckAtMost();
        theAuditOfADayIsAheadOfItsLuck();
        theDayIs1Greater();
        Expect.end();
    }

    /** "An object is used for at most 512 calls after it has been made". */
    private static void the512thCallIsAnsweredYet() {
        SaltOrder order = new SaltOrder();
        order.join();
        for (int i = 0; i < 509; i++) {
            order.pass(60);
        }
        Expect.same("luckOf(0), the 511th call", order.luckOf(0), 100);
        Expect.same("day(), the 512th call", order.day(), 30540);

        SaltOrder busy = Orders.withMembers(8);
        for (int i = 0; i < 503; i++) {
            throwBringOrAudit(busy, i);
        }
        Expect.same("faultsFound(), the 512th call", busy.faultsFound(), 450);
    }

    /** Of 32 calls 30 fill the ledger, one brings the salt back, and one audits. */
    private static void throwBringOrAudit(SaltOrder order, int i) {
        int step = i % 32;
        if (step == 0) {
            order.bringSalt(500);
        } else if (step == 31) {
            Expect.same("audit() of a full ledger", order.audit(), 30);
        } else if (i < 480) {
            order.throwSalt(i % 8, 1, 9);
        } else {
            order.daysUntilAudit();
        }
    }

    private static void manyCallsOfTheOneOrderLeaveAnotherAlone() {
        SaltOrder other = Orders.withMembers(2);
        String before = Answers.of(other);
        SaltOrder order = Orders.withMembers(8);
        order.bringSalt(500);
        Orders.spillInParts(order, 1, 90);
        Orders.throwTimes(order, 30, 0, 1, 9);
        order.pass(60);
        Expect.same("all answers of another order", Answers.of(other), before);
    }

    /** "Time is told in days, from 0." */
    private static void daysAreToldFrom0() {
        Expect.same("day() at first", new SaltOrder().day(), 0);
    }

    /** "Members. At most 8". */
    private static void membersAreAtMost8() {
        Expect.same("the 8th join()", Orders.withMembers(7).join(), 7);
        Expect.refusedByNew("the 9th join()", () -> Orders.withMembers(8), Wrong.STATE, order -> order.join());
    }

    /** "numbered from 0". */
    private static void membersAreNumberedFrom0() {
        Expect.same("the first join()", new SaltOrder().join(), 0);
        SaltOrder order = Orders.withMembers(8);
        Expect.same("spill(0, 1)", order.spill(0, 1), 1);
        Expect.same("spill(7, 2)", order.spill(7, 2), 2);
        for (int member = 0; member < 8; member++) {
            Expect.same("arrearsOf(" + member + ")", order.arrearsOf(member), member == 0 ? 1 : member == 7 ? 2 : 0);
        }
    }

    /** "each has luck, 0 to 100". */
    private static void luckIs0AtLeast() {
        SaltOrder order = Orders.withLuck(0, 1);
        Expect.same("luckOf(0) with none", order.luckOf(0), 0);
        order.pass(1);
        Expect.same("luckOf(0) with none, a day on", order.luckOf(0), 0);
        order.pass(60);
        Expect.same("luckOf(0) with none, 61 days on", order.luckOf(0), 0);
        order.throwSalt(0, 0, 1);
        order.pass(1);
        Expect.same("luckOf(0), the arrears made up for", order.luckOf(0), 1);
    }

    private static void luckIs100AtMost() {
        SaltOrder order = Orders.withLuck(100, 0);
        Expect.same("luckOf(0) with the most", order.luckOf(0), 100);
        order.pass(1);
        Expect.same("luckOf(0) with the most, a day on", order.luckOf(0), 100);
        order.pass(60);
        Expect.same("luckOf(0) with the most, 61 days on", order.luckOf(0), 100);
        order.spill(0, 1);
        order.pass(1);
        Expect.same("luckOf(0) in arrears again", order.luckOf(0), 99);
    }

    /** "(50, at first)". */
    private static void luckIs50AtFirst() {
        SaltOrder order = Orders.withLuck(100, 0);
        for (int member = 1; member < 8; member++) {
            order.join();
            Expect.same("luckOf(" + member + ") at first", order.luckOf(member), 50);
        }
    }

    /** "arrears, 0 to 99". */
    private static void arrearsAre0AtLeast() {
        SaltOrder order = Orders.withMembers(1);
        order.throwSalt(0, 0, 1);
        Expect.same("arrearsOf(0) behind a throw", order.arrearsOf(0), 0);
        order.audit();
        order.throwSalt(0, 0, 9);
        Expect.same("arrearsOf(0) of 2 behind 9 grains", order.arrearsOf(0), 0);
        Expect.same("allArrears()", order.allArrears(), 0);
        Expect.same("clearMembers()", order.clearMembers(), 1);
    }

    private static void arrearsAre99AtMost() {
        Expect.same("98 and 1", Orders.inArrears(98).spill(0, 1), 99);
        Expect.same("99 and 1", Orders.inArrears(99).spill(0, 1), 99);
        Expect.same("99 and 30", Orders.inArrears(99).spill(0, 30), 99);
    }

    /** "(0, at first)", of arrears. */
    private static void arrearsAre0AtFirst() {
        SaltOrder order = Orders.inArrears(99);
        Expect.same("arrearsOf() at first", order.arrearsOf(order.join()), 0);
    }

    /** "and lumps of sugar to eat, 0 to 9". */
    private static void lumpsAre0AtLeast() {
        SaltOrder order = Orders.withMembers(1);
        order.pass(1);
        Expect.same("lumpsOf(0) without any, a day on", order.lumpsOf(0), 0);
        order.doPenance(0, 1);
        order.pass(1);
        Expect.same("lumpsOf(0) of 1, a day on", order.lumpsOf(0), 0);
        order.pass(60);
        Expect.same("lumpsOf(0) of 1, 61 days on", order.lumpsOf(0), 0);
    }

    private static void lumpsAre9AtMost() {
        SaltOrder order = Orders.withMembers(1);
        Expect.same("9 lumps", order.doPenance(0, 9), 9);
        Expect.same("9 lumps and 1", order.doPenance(0, 1), 9);
        order.pass(9);
        Expect.same("lumpsOf(0), 9 days on", order.lumpsOf(0), 0);
    }

    /** "(0, at first)", of lumps. */
    private static void lumpsAre0AtFirst() {
        SaltOrder order = Orders.withMembers(1);
        order.doPenance(0, 9);
        Expect.same("lumpsOf() at first", order.lumpsOf(order.join()), 0);
    }

    /** "Shoulders: 0, the left one, and 1, the right one." */
    private static void shouldersAre0And1() {
        SaltOrder order = Orders.withMembers(1);
        order.throwSalt(0, 0, 1);
        order.throwSalt(0, 1, 1);
        Expect.same("isLeft() of the shoulder 0", order.isLeft(0), true);
        Expect.same("isLeft() of the shoulder 1", order.isLeft(1), false);
    }

    /** "Cellar. It has salt, 0 to 500 grains". */
    private static void theCellarHas0AtLeast() {
        SaltOrder spilt = Orders.inArrears(0, 30);
        spilt.spill(0, 30);
        Expect.same("salt() of 30 behind a spill of 30", spilt.salt(), 0);
        SaltOrder thrown = Orders.inArrears(0, 9);
        thrown.throwSalt(0, 1, 9);
        Expect.same("salt() of 9 behind a throw of 9", thrown.salt(), 0);
        Expect.same("salt() of 0 behind 1 more", thrown.bringSalt(1), 1);
    }

    private static void theCellarHas500AtMost() {
        SaltOrder order = new SaltOrder();
        Expect.same("100 and 400", order.bringSalt(400), 500);
        Expect.same("500 and 1", order.bringSalt(1), 500);
        Expect.same("salt()", order.salt(), 500);
    }

    /** "(100, at first)". */
    private static void theCellarHas100AtFirst() {
        new SaltOrder().bringSalt(5);
        Expect.same("salt() at first", new SaltOrder().salt(), 100);
    }

    /** "what is spilt or thrown is taken out of it". */
    private static void whatIsSpiltOrThrownIsTakenOut() {
        SaltOrder order = Orders.inArrears(99, 200);
        order.spill(0, 30);
        Expect.same("salt() behind a spill that is cut to the bound", order.salt(), 170);
        order.throwSalt(0, 0, 9);
        Expect.same("salt() behind a throw to the left", order.salt(), 161);
        order.throwSalt(0, 1, 1);
        Expect.same("salt() behind a throw to the right", order.salt(), 160);
    }

    /** "A throw is by a member, over a shoulder, of 1 to 9 grains." */
    private static void throwsAreOf1To9Grains() {
        for (int grains = 1; grains <= 9; grains++) {
            SaltOrder order = Orders.withMembers(1);
            order.throwSalt(0, 0, grains);
            Expect.same("grainsOf(0)", order.grainsOf(0), grains);
            Expect.same("salt()", order.salt(), 100 - grains);
        }
    }

    /** "Over the left one the arrears are as many grains less, at least 0". */
    private static void leftThrowsLessenArrearsTo0AtLeast() {
        for (int grains = 1; grains <= 9; grains++) {
            for (int arrears : new int[] {0, grains - 1, grains, grains + 1, 10, 99}) {
                SaltOrder order = Orders.inArrears(arrears);
                order.throwSalt(0, 0, grains);
                int due = arrears > grains ? arrears - grains : 0;
                Expect.same(arrears + " arrears behind " + grains, order.arrearsOf(0), due);
            }
        }
    }

    /** "over the right one nothing happens". */
    private static void rightThrowsDoNothing() {
        for (int grains = 1; grains <= 9; grains++) {
            for (int arrears : new int[] {0, grains, 99}) {
                SaltOrder order = Orders.inArrears(arrears);
                order.throwSalt(0, 1, grains);
                Expect.same(arrears + " arrears behind " + grains + " to the right", order.arrearsOf(0), arrears);
                Expect.same("luckOf(0)", order.luckOf(0), 50);
            }
        }
    }

    /** "Its excess are the grains by which it was more than the arrears that there were". */
    private static void theExcessOfLeftThrowsIsWhatWasMore() {
        for (int grains = 1; grains <= 9; grains++) {
            for (int arrears : new int[] {0, 1, grains - 1, grains, grains + 1, 10, 99}) {
                SaltOrder order = Orders.inArrears(arrears);
                int due = grains > arrears ? grains - arrears : 0;
                Expect.same("excess of " + grains + " with " + arrears, order.throwSalt(0, 0, grains), due);
                Expect.same("excessOf(0)", order.excessOf(0), due);
            }
        }
    }

    /** "over the right one all of its grains". */
    private static void theExcessOfRightThrowsIsAll() {
        for (int grains = 1; grains <= 9; grains++) {
            for (int arrears : new int[] {0, grains, 99}) {
                SaltOrder order = Orders.inArrears(arrears);
                Expect.same("excess to the right with " + arrears, order.throwSalt(0, 1, grains), grains);
                Expect.same("excessOf(0)", order.excessOf(0), grains);
            }
        }
    }

    private static SaltOrder withThrows(int times) {
        SaltOrder order = Orders.withMembers(1);
        Orders.throwTimes(order, times, 0, 1, 1);
        return order;
    }

    /** "Ledger. It has at most 30 throws that are not audited". */
    private static void theLedgerHas30ThrowsAtMost() {
        Expect.same("ledger() at first", withThrows(0).ledger(), 0);
        SaltOrder order = withThrows(29);
        Expect.same("the 30th throw", order.throwSalt(0, 0, 1), 1);
        Expect.same("ledger()", order.ledger(), 30);
        for (int shoulder = 0; shoulder <= 1; shoulder++) {
            int over = shoulder;
            Expect.refusedByNew("the 31st throw", () -> withThrows(30), Wrong.STATE, full -> full.throwSalt(0, over, 1));
        }
    }

    /** "numbered from 0 in their order". */
    private static void throwsAreNumberedFrom0InTheirOrder() {
        SaltOrder order = Orders.withMembers(8);
        order.bringSalt(500);
        for (int i = 0; i < 30; i++) {
            order.throwSalt(i * 3 % 8, i % 3 == 0 ? 0 : 1, 1 + i % 9);
        }
        for (int i = 0; i < 30; i++) {
            Expect.same("memberOf(" + i + ")", order.memberOf(i), i * 3 % 8);
            Expect.same("isLeft(" + i + ")", order.isLeft(i), i % 3 == 0);
            Expect.same("grainsOf(" + i + ")", order.grainsOf(i), 1 + i % 9);
        }
    }

    /** "with an excess it is a fault". */
    private static void aThrowWithAnExcessIsAFault() {
        int[] arrears = {9, 10, 8, 0};
        int[] due = {0, 0, 1, 1};
        for (int i = 0; i < due.length; i++) {
            SaltOrder order = Orders.inArrears(arrears[i]);
            order.throwSalt(0, 0, 9);
            Expect.same("audit() of 9 grains with " + arrears[i], order.audit(), due[i]);
            Expect.same("faultsFound() with " + arrears[i], order.faultsFound(), due[i]);
        }
    }

    /** "and its member has twice the excess more arrears". */
    private static void anAuditAddsTwiceTheExcess() {
        for (int grains = 1; grains <= 9; grains++) {
            SaltOrder order = Orders.withMembers(2);
            order.spill(1, 2);
            order.throwSalt(1, 1, grains);
            order.audit();
            Expect.same("arrearsOf(1) behind an excess of " + grains, order.arrearsOf(1), 2 + 2 * grains);
            Expect.same("arrearsOf(0), who threw nothing", order.arrearsOf(0), 0);
        }
        SaltOrder without = Orders.inArrears(9);
        without.throwSalt(0, 0, 9);
        without.audit();
        Expect.same("arrearsOf(0) behind no excess", without.arrearsOf(0), 0);
    }

    /** "at most 99", of an audit. */
    private static void anAuditAddsTo99AtMost() {
        int[] arrears = {80, 81, 82, 98, 99};
        int[] due = {98, 99, 99, 99, 99};
        for (int i = 0; i < due.length; i++) {
            SaltOrder order = Orders.inArrears(arrears[i]);
            order.throwSalt(0, 1, 9);
            Expect.same("audit() with " + arrears[i], order.audit(), 1);
            Expect.same("arrearsOf(0) of " + arrears[i], order.arrearsOf(0), due[i]);
        }
    }

    private static void anAuditBoundsAtEachThrow() {
        SaltOrder order = Orders.inArrears(95);
        Orders.throwTimes(order, 30, 0, 1, 9);
        order.audit();
        Expect.same("arrearsOf(0) behind 30 faults", order.arrearsOf(0), 99);
        Expect.same("spill(0, 1) behind 30 faults", order.spill(0, 1), 99);
        order.throwSalt(0, 0, 9);
        Expect.same("arrearsOf(0) behind a throw", order.arrearsOf(0), 90);
    }

    /** "The ledger is empty then." */
    private static void theLedgerIsEmptyBehindAnAudit() {
        for (int times : new int[] {0, 1, 29, 30}) {
            SaltOrder order = withThrows(times);
            order.audit();
            Expect.same("ledger()", order.ledger(), 0);
            Expect.same("faults()", order.faults(), 0);
            Expect.same("arrearsByAudit(0)", order.arrearsByAudit(0), 0);
            Expect.refused("excessOf(0)", Wrong.INDEX, () -> order.excessOf(0));
            Orders.throwTimes(order, 30, 0, 1, 1);
            Expect.same("ledger() filled again", order.ledger(), 30);
        }
    }

    /** "If 7 divides the day and 6 is left, so in the days 6, 13, 20 and so on, there is an audit." */
    private static void auditsAreInTheDays6And13AndSoOn() {
        SaltOrder order = Orders.withMembers(1);
        order.bringSalt(500);
        for (int day = 0; day <= 70; day++) {
            boolean audited = day % 7 == 6;
            order.throwSalt(0, 1, 1);
            int due = audited ? order.ledger() : 0;
            int left = audited ? 0 : order.ledger();
            Expect.same("pass(1) in the day " + day, order.pass(1), due);
            Expect.same("ledger() behind the day " + day, order.ledger(), left);
        }
    }

    private static void auditsOfManyDaysAreHeldInTheirDays() {
        int[] days = {1, 5, 6, 7, 8, 13, 14, 60};
        int[] due = {0, 0, 0, 1, 1, 1, 1, 1};
        for (int i = 0; i < due.length; i++) {
            SaltOrder order = Orders.withMembers(1);
            order.throwSalt(0, 1, 1);
            Expect.same("pass(" + days[i] + ") of a new order", order.pass(days[i]), due[i]);
        }
    }

    /** "Each member with lumps to eat eats one". */
    private static void aMemberWithLumpsEatsOne() {
        SaltOrder order = Orders.withMembers(8);
        for (int member = 0; member < 8; member++) {
            order.doPenance(member, 1 + member);
        }
        order.pass(1);
        for (int member = 0; member < 8; member++) {
            Expect.same("lumpsOf(" + member + ") a day on", order.lumpsOf(member), member);
        }
        order.pass(4);
        for (int member = 0; member < 8; member++) {
            Expect.same("lumpsOf(" + member + ") 5 days on", order.lumpsOf(member), Math.max(0, member - 4));
        }
    }

    /** "it has 3 arrears less, at least 0". */
    private static void eatingTakes3ArrearsTo0AtLeast() {
        int[] arrears = {0, 1, 2, 3, 4, 99};
        int[] due = {0, 0, 0, 0, 1, 96};
        for (int i = 0; i < due.length; i++) {
            SaltOrder order = Orders.inArrears(arrears[i]);
            order.doPenance(0, 1);
            order.pass(1);
            Expect.same("arrearsOf(0) of " + arrears[i] + " behind a lump", order.arrearsOf(0), due[i]);
        }
    }

    /** "Each other one" has more or less luck: the one who eats has neither, with the last lump too. */
    private static void eatingLeavesLuckAlone() {
        for (int arrears : new int[] {0, 1, 3, 4, 99}) {
            for (int lumps : new int[] {1, 2, 9}) {
                SaltOrder order = Orders.inArrears(arrears);
                order.doPenance(0, lumps);
                order.pass(lumps);
                Expect.same("luckOf(0) of " + arrears + " behind " + lumps, order.luckOf(0), 50);
            }
        }
    }

    /** "by 1 for each 10 arrears or a part of 10 (so by 1 for 1 to 10, by 2 for 11 to 20)". */
    private static void aMemberWithArrearsHasLessLuck() {
        int loss = 0;
        for (int arrears = 1; arrears <= 99; arrears++) {
            if (arrears % 10 == 1) {
                loss++;
            }
            SaltOrder order = Orders.inArrears(arrears);
            order.pass(1);
            Expect.same("luckOf(0) with " + arrears, order.luckOf(0), 50 - loss);
            Expect.same("arrearsOf(0) with " + arrears, order.arrearsOf(0), arrears);
        }
    }

    /** "at least 0 is left". */
    private static void lossesLeave0LuckAtLeast() {
        int[] luck = {0, 1, 2, 3, 9, 10, 11};
        int[] dueWith11 = {0, 0, 0, 1, 7, 8, 9};
        int[] dueWith99 = {0, 0, 0, 0, 0, 0, 1};
        for (int i = 0; i < luck.length; i++) {
            SaltOrder some = Orders.withLuck(luck[i], 11);
            some.pass(1);
            Expect.same("luckOf(0) of " + luck[i] + " with 11", some.luckOf(0), dueWith11[i]);
            SaltOrder most = Orders.withLuck(luck[i], 99);
            most.pass(1);
            Expect.same("luckOf(0) of " + luck[i] + " with 99", most.luckOf(0), dueWith99[i]);
        }
    }

    /** "Each one without both has 1 more luck". */
    private static void aMemberWithoutBothHas1MoreLuck() {
        for (int luck : new int[] {0, 1, 49, 50, 98, 99}) {
            SaltOrder order = Orders.withLuck(luck, 0);
            order.pass(1);
            Expect.same("luckOf(0) of " + luck, order.luckOf(0), luck + 1);
        }
    }

    /** "at most 100". */
    private static void gainsLead100LuckAtMost() {
        SaltOrder order = Orders.withLuck(99, 0);
        order.pass(1);
        Expect.same("luckOf(0) of 99", order.luckOf(0), 100);
        order.pass(1);
        Expect.same("luckOf(0) of 100", order.luckOf(0), 100);
    }

    /** The steps of a day go in their order: 1 ahead of 2. */
    private static void theAuditOfADayIsAheadOfItsLuck() {
        SaltOrder clear = Orders.inDay(6);
        clear.throwSalt(0, 1, 1);
        clear.pass(1);
        Expect.same("luckOf(0), in arrears by the day's audit", clear.luckOf(0), 55);
        SaltOrder eating = Orders.inDay(6);
        eating.throwSalt(0, 1, 1);
        eating.doPenance(0, 1);
        eating.pass(1);
        Expect.same("arrearsOf(0), 2 by the day's audit", eating.arrearsOf(0), 0);
    }

    /** "The day is 1 greater." */
    private static void theDayIs1Greater() {
        SaltOrder order = new SaltOrder();
        for (int day = 0; day < 8; day++) {
            Expect.same("day()", order.day(), day);
            order.pass(1);
        }
        SaltOrder other = new SaltOrder();
        other.pass(60);
        Expect.same("day() behind pass(60)", other.day(), 60);
    }
}
