import java.util.ArrayList;
import java.util.List;

/**
 * The document's words as plainly as can be, to compare with: what would be is tried out on a
 * copy of the whole order, with each of its days lived by all.
 */
final class PlainOrder {
    private static final class Member {
        int luck = 50;
        int arrears = 0;
        int lumps = 0;
    }

    private record Thrown(int member, int shoulder, int grains, int excess) {
    }

    private final List<Member> members = new ArrayList<>();
    private final List<Thrown> ledger = new ArrayList<>();
    private int day = 0;
    private int salt = 100;
    private int found = 0;

    private PlainOrder copy() {
        PlainOrder copy = new PlainOrder();
        for (Member member : members) {
            Member same = new Member();
            same.luck = member.luck;
            same.arrears = member.arrears;
            same.lumps = member.lumps;
            copy.members.add(same);
        }
        copy.ledger.addAll(ledger);
        copy.day = day;
        copy.salt = salt;
        copy.found = found;
        return copy;
    }

    private Member member(int number) {
        if (number < 0 || number >= members.size()) {
            throw new IndexOutOfBoundsException();
        }
        return members.get(number);
    }

    private Thrown entry(int number) {
        if (number < 0 || number >= ledger.size()) {
            throw new IndexOutOfBoundsException();
        }
        return ledger.get(number);
    }

    private static void need(int amount, int most) {
        if (amount < 1 || amount > most) {
            throw new IllegalArgumentException();
        }
    }

    private static void needState(boolean good) {
        if (!good) {
            throw new IllegalStateException();
        }
    }

    int join() {
        needState(members.size() < 8);
        members.add(new Member());
        return members.size() - 1;
    }

    int spill(int number, int grains) {
        Member member = member(number);
        need(grains, 30);
        needState(salt >= grains);
        salt -= grains;
        member.arrears = Math.min(99, member.arrears + grains);
        return member.arrears;
    }

    int throwSalt(int number, int shoulder, int grains) {
        Member member = member(number);
        if (shoulder != 0 && shoulder != 1) {
            throw new IndexOutOfBoundsException();
        }
        need(grains, 9);
        needState(salt >= grains && ledger.size() < 30);
        int excess = grains;
        if (shoulder == 0) {
            excess = grains > member.arrears ? grains - member.arrears : 0;
            member.arrears = grains > member.arrears ? 0 : member.arrears - grains;
        }
        salt -= grains;
        ledger.add(new Thrown(number, shoulder, grains, excess));
        return excess;
    }

    int doPenance(int number, int lumps) {
        Member member = member(number);
        need(lumps, 9);
        member.lumps = Math.min(9, member.lumps + lumps);
        return member.lumps;
    }

    int bringSalt(int grains) {
        need(grains, 500);
        salt = Math.min(500, salt + grains);
        return salt;
    }

    int audit() {
        int faulty = 0;
        for (Thrown thrown : ledger) {
            if (thrown.excess > 0) {
                faulty++;
                Member member = members.get(thrown.member);
                member.arrears = Math.min(99, member.arrears + 2 * thrown.excess);
            }
        }
        ledger.clear();
        found += faulty;
        return faulty;
    }

    int pass(int days) {
        need(days, 60);
        int faulty = 0;
        for (int i = 0; i < days; i++) {
            if (day % 7 == 6) {
                faulty += audit();
            }
            for (Member member : members) {
                live(member);
            }
            day++;
        }
        return faulty;
    }

    private static void live(Member member) {
        if (member.lumps > 0) {
            member.lumps--;
            member.arrears = Math.max(0, member.arrears - 3);
        } else if (member.arrears > 0) {
            member.luck = Math.max(0, member.luck - tens(member.arrears));
        } else if (member.luck < 100) {
            member.luck++;
        }
    }

    private static int tens(int arrears) {
        return arrears / 10 + (arrears % 10 > 0 ? 1 : 0);
    }

    int day() {
        return day;
    }

    int members() {
        return members.size();
    }

    int luckOf(int number) {
        return member(number).luck;
    }

    int arrearsOf(int number) {
        return member(number).arrears;
    }

    int lumpsOf(int number) {
        return member(number).lumps;
    }

    int dailyLoss(int number) {
        Member member = member(number);
        return member.lumps > 0 ? 0 : tens(member.arrears);
    }

    int luckiest() {
        for (int luck = 100; luck >= 0; luck--) {
            for (int i = 0; i < members.size(); i++) {
                if (members.get(i).luck == luck) {
                    return i;
                }
            }
        }
        return -1;
    }

    int allArrears() {
        return members.stream().mapToInt(member -> member.arrears).sum();
    }

    int clearMembers() {
        return (int) members.stream().filter(member -> member.arrears == 0).count();
    }

    int salt() {
        return salt;
    }

    int ledger() {
        return ledger.size();
    }

    int memberOf(int number) {
        return entry(number).member;
    }

    boolean isLeft(int number) {
        return entry(number).shoulder == 0;
    }

    int grainsOf(int number) {
        return entry(number).grains;
    }

    int excessOf(int number) {
        return entry(number).excess;
    }

    int faults() {
        return copy().audit();
    }

    int arrearsByAudit(int number) {
        member(number);
        return ledger.stream().filter(thrown -> thrown.member == number).mapToInt(thrown -> 2 * thrown.excess).sum();
    }

    int daysUntilAudit() {
        int days = 0;
        while ((day + days) % 7 != 6) {
            days++;
        }
        return days;
    }

    int faultsFound() {
        return found;
    }

    int luckIn(int number, int days) {
        member(number);
        PlainOrder copy = copy();
        copy.pass(days);
        return copy.luckOf(number);
    }

    int daysUntilClear(int number) {
        member(number);
        PlainOrder copy = copy();
        for (int days = 0; days <= 60; days++) {
            if (copy.arrearsOf(number) == 0) {
                return days;
            }
            copy.pass(1);
        }
        return -1;
    }

    int daysUntilUnlucky(int number) {
        member(number);
        PlainOrder copy = copy();
        for (int days = 0; days <= 60; days++) {
            if (copy.luckOf(number) == 0) {
                return days;
            }
            copy.pass(1);
        }
        return -1;
    }

    int bestPinch(int number) {
        member(number);
        int best = 0;
        for (int grains = 1; ledger.size() < 30 && grains <= 9 && grains <= salt; grains++) {
            if (luckWithPinch(number, grains) > luckWithPinch(number, best)) {
                best = grains;
            }
        }
        return best;
    }

    private int luckWithPinch(int number, int grains) {
        PlainOrder copy = copy();
        if (grains > 0) {
            copy.throwSalt(number, 0, grains);
        }
        copy.pass(14);
        return copy.luckOf(number);
    }

    int bestPenance(int number) {
        member(number);
        int best = 0;
        for (int lumps = 1; lumps <= 9; lumps++) {
            if (luckWithPenance(number, lumps) > luckWithPenance(number, best)) {
                best = lumps;
            }
        }
        return best;
    }

    private int luckWithPenance(int number, int lumps) {
        PlainOrder copy = copy();
        if (lumps > 0) {
            copy.doPenance(number, lumps);
        }
        copy.pass(20);
        return copy.luckOf(number);
    }

    double meanLuck() {
        return members.stream().mapToInt(member -> member.luck).average().orElse(0.0);
    }

    long digest() {
        List<Integer> numbers = new ArrayList<>(List.of(day(), members(), salt(), ledger(), faults(),
                faultsFound(), luckiest(), allArrears()));
        for (int i = 0; i < members.size(); i++) {
            numbers.addAll(List.of(luckOf(i), arrearsOf(i), lumpsOf(i), dailyLoss(i), arrearsByAudit(i),
                    bestPinch(i), bestPenance(i)));
        }
        for (int i = 0; i < ledger.size(); i++) {
            numbers.addAll(List.of(memberOf(i), isLeft(i) ? 1 : 0, grainsOf(i), excessOf(i)));
        }
        long d = 2011;
        for (int x : numbers) {
            d = d * 31 + x;
        }
        return d;
    }
}
