import java.math.BigInteger;
import java.util.ArrayList;
import java.util.List;

/** What an order answers, taken together; with 8 members and 30 throws some 230 calls. */
final class Answers {
    private Answers() {
    }

    /** Every question that changes nothing, of each member and each throw. */
    static String of(SaltOrder order) {
        StringBuilder all = new StringBuilder();
        all.append(order.day()).append(' ').append(order.members()).append(' ').append(order.luckiest());
        all.append(' ').append(order.allArrears()).append(' ').append(order.clearMembers());
        all.append(' ').append(order.salt()).append(' ').append(order.ledger()).append(' ').append(order.faults());
        all.append(' ').append(order.daysUntilAudit()).append(' ').append(order.faultsFound());
        all.append(' ').append(order.meanLuck()).append(' ').append(order.digest());
        for (int member = 0; member < order.members(); member++) {
            all.append("; ").append(member).append(ofMember(order, member));
        }
        for (int entry = 0; entry < order.ledger(); entry++) {
            all.append("; ").append(entry).append(ofThrow(order, entry));
        }
        return all.toString();
    }

    private static List<Integer> ofMember(SaltOrder order, int member) {
        return List.of(order.luckOf(member), order.arrearsOf(member), order.lumpsOf(member),
                order.dailyLoss(member), order.arrearsByAudit(member), order.luckIn(member, 60),
                order.daysUntilClear(member), order.daysUntilUnlucky(member),
                order.bestPinch(member), order.bestPenance(member));
    }

    private static List<Integer> ofThrow(SaltOrder order, int entry) {
        return List.of(order.memberOf(entry), order.isLeft(entry) ? 1 : 0, order.grainsOf(entry),
                order.excessOf(entry));
    }

    /** The checksum's numbers x, in the document's order. */
    static List<Integer> digested(SaltOrder order) {
        List<Integer> numbers = new ArrayList<>(List.of(order.day(), order.members(), order.salt(),
                order.ledger(), order.faults(), order.faultsFound(), order.luckiest(), order.allArrears()));
        for (int member = 0; member < order.members(); member++) {
            numbers.addAll(List.of(order.luckOf(member), order.arrearsOf(member), order.lumpsOf(member),
                    order.dailyLoss(member), order.arrearsByAudit(member),
                    order.bestPinch(member), order.bestPenance(member)));
        }
        for (int entry = 0; entry < order.ledger(); entry++) {
            numbers.addAll(ofThrow(order, entry));
        }
        return numbers;
    }

    /** The checksum of these numbers as it would be if it never wrapped around. */
    static BigInteger unwrapped(List<Integer> numbers) {
        BigInteger d = BigInteger.valueOf(2011);
        for (int x : numbers) {
            d = d.multiply(BigInteger.valueOf(31)).add(BigInteger.valueOf(x));
        }
        return d;
    }
}
