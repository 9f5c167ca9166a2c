/** An order of the spilt salt: its members, their luck, the cellar and the ledger of throws. */
public final class SaltOrder {
    private static final int MOST_MEMBERS = 8;
    private static final int MOST_LUCK = 100;
    private static final int FIRST_LUCK = 50;
    private static final int MOST_ARREARS = 99;
    private static final int MOST_LUMPS = 9;
    private static final int ARREARS_EATEN = 3;
    private static final int ARREARS_A_LOSS = 10;

    private static final int LEFT = 0;
    private static final int RIGHT = 1;

    private static final int MOST_SALT = 500;
    private static final int FIRST_SALT = 100;
    private static final int MOST_SPILT = 30;
    private static final int MOST_THROWN = 9;

    private static final int MOST_THROWS = 30;
    private static final int ARREARS_AN_EXCESS = 2;
    private static final int AUDIT_EVERY = 7;
    private static final int AUDIT_LEFT = 6;

    private static final int MOST_DAYS = 60;
    private static final int PINCH_DAYS = 14;
    private static final int PENANCE_DAYS = 20;
    private static final int NEVER = -1;
    private static final int NOBODY = -1;
    private static final int NO_LUCK_YET = -1;

    private static final long DIGEST_START = 2011L;
    private static final long DIGEST_FACTOR = 31L;

    /** The row behind the members' rows: what would be is tried out in it, so that nobody changes. */
    private static final int TRIAL = MOST_MEMBERS;
    private static final int ROWS = MOST_MEMBERS + 1;

    private final int[] luck = new int[ROWS];
    private final int[] arrears = new int[ROWS];
    private final int[] toEat = new int[ROWS];
    private int memberCount;

    private final int[] throwers = new int[MOST_THROWS];
    private final boolean[] lefts = new boolean[MOST_THROWS];
    private final int[] thrown = new int[MOST_THROWS];
    private final int[] excesses = new int[MOST_THROWS];
    private int throwCount;

    private int cellar;
    private int today;
    private int found;

    private int trialDay;
    private int trialDebt;

    public SaltOrder() {
        memberCount = 0;
        throwCount = 0;
        cellar = FIRST_SALT;
        today = 0;
        found = 0;
    }

    // ---- what members do

    public int join() throws IllegalStateException {
        if (memberCount >= MOST_MEMBERS) {
            throw new IllegalStateException("the order is full");
        }
        int member = memberCount;
        luck[member] = FIRST_LUCK;
        arrears[member] = 0;
        toEat[member] = 0;
        memberCount++;
        return member;
    }

    public int spill(int member, int grains)
            throws IndexOutOfBoundsException, IllegalArgumentException, IllegalStateException {
        checkMember(member);
        checkAmount(grains, MOST_SPILT);
        checkCellar(grains);
        cellar -= grains;
        addArrears(member, grains);
        return arrears[member];
    }

    public int throwSalt(int member, int shoulder, int grains)
            throws IndexOutOfBoundsException, IllegalArgumentException, IllegalStateException {
        checkMember(member);
        checkShoulder(shoulder);
        checkAmount(grains, MOST_THROWN);
        checkCellar(grains);
        checkLedgerHasRoom();
        boolean left = shoulder == LEFT;
        int excess = left ? leftExcess(member, grains) : grains;
        if (left) {
            lessenArrears(member, grains);
        }
        cellar -= grains;
        writeThrow(member, left, grains, excess);
        return excess;
    }

    public int doPenance(int member, int lumps) throws IndexOutOfBoundsException, IllegalArgumentException {
        checkMember(member);
        checkAmount(lumps, MOST_LUMPS);
        addLumps(member, lumps);
        return toEat[member];
    }

    public int bringSalt(int grains) throws IllegalArgumentException {
        checkAmount(grains, MOST_SALT);
        cellar = Math.min(MOST_SALT, cellar + grains);
        return cellar;
    }

    public int audit() {
        int faulty = faults();
        for (int member = 0; member < memberCount; member++) {
            addArrears(member, debtOf(member));
        }
        throwCount = 0;
        found += faulty;
        return faulty;
    }

    public int pass(int days) throws IllegalArgumentException {
        checkAmount(days, MOST_DAYS);
        int faulty = 0;
        for (int i = 0; i < days; i++) {
            faulty += passOneDay();
        }
        return faulty;
    }

    // ---- members

    public int day() {
        return today;
    }

    public int members() {
        return memberCount;
    }

    public int luckOf(int member) throws IndexOutOfBoundsException {
        checkMember(member);
        return luck[member];
    }

    public int arrearsOf(int member) throws IndexOutOfBoundsException {
        checkMember(member);
        return arrears[member];
    }

    public int lumpsOf(int member) throws IndexOutOfBoundsException {
        checkMember(member);
        return toEat[member];
    }

    public int dailyLoss(int member) throws IndexOutOfBoundsException {
        checkMember(member);
        return lossOf(member);
    }

    public int luckiest() {
        int best = NOBODY;
        int bestLuck = NO_LUCK_YET;
        for (int member = 0; member < memberCount; member++) {
            if (luck[member] > bestLuck) {
                best = member;
                bestLuck = luck[member];
            }
        }
        return best;
    }

    public int allArrears() {
        int sum = 0;
        for (int member = 0; member < memberCount; member++) {
            sum += arrears[member];
        }
        return sum;
    }

    public int clearMembers() {
        int clear = 0;
        for (int member = 0; member < memberCount; member++) {
            if (arrears[member] == 0) {
                clear++;
            }
        }
        return clear;
    }

    public int salt() {
        return cellar;
    }

    // ---- the ledger

    public int ledger() {
        return throwCount;
    }

    public int memberOf(int entry) throws IndexOutOfBoundsException {
        checkEntry(entry);
        return throwers[entry];
    }

    public boolean isLeft(int entry) throws IndexOutOfBoundsException {
        checkEntry(entry);
        return lefts[entry];
    }

    public int grainsOf(int entry) throws IndexOutOfBoundsException {
        checkEntry(entry);
        return thrown[entry];
    }

    public int excessOf(int entry) throws IndexOutOfBoundsException {
        checkEntry(entry);
        return excesses[entry];
    }

    public int faults() {
        int faulty = 0;
        for (int entry = 0; entry < throwCount; entry++) {
            if (excesses[entry] > 0) {
                faulty++;
            }
        }
        return faulty;
    }

    public int arrearsByAudit(int member) throws IndexOutOfBoundsException {
        checkMember(member);
        return debtOf(member);
    }

    public int daysUntilAudit() {
        return AUDIT_LEFT - today % AUDIT_EVERY;
    }

    public int faultsFound() {
        return found;
    }

    // ---- what would be

    public int luckIn(int member, int days) throws IndexOutOfBoundsException, IllegalArgumentException {
        checkMember(member);
        checkAmount(days, MOST_DAYS);
        beginTrial(member);
        return trialLuckBehind(days);
    }

    public int daysUntilClear(int member) throws IndexOutOfBoundsException {
        checkMember(member);
        beginTrial(member);
        for (int days = 0; days <= MOST_DAYS; days++) {
            if (arrears[TRIAL] == 0) {
                return days;
            }
            passTrialDay();
        }
        return NEVER;
    }

    public int daysUntilUnlucky(int member) throws IndexOutOfBoundsException {
        checkMember(member);
        beginTrial(member);
        for (int days = 0; days <= MOST_DAYS; days++) {
            if (luck[TRIAL] == 0) {
                return days;
            }
            passTrialDay();
        }
        return NEVER;
    }

    public int bestPinch(int member) throws IndexOutOfBoundsException {
        checkMember(member);
        if (throwCount >= MOST_THROWS) {
            return 0;
        }
        int most = Math.min(MOST_THROWN, cellar);
        int best = 0;
        int bestLuck = NO_LUCK_YET;
        for (int grains = 0; grains <= most; grains++) {
            beginTrialWithPinch(member, grains);
            int trialLuck = trialLuckBehind(PINCH_DAYS);
            if (trialLuck > bestLuck) {
                best = grains;
                bestLuck = trialLuck;
            }
        }
        return best;
    }

    public int bestPenance(int member) throws IndexOutOfBoundsException {
        checkMember(member);
        int best = 0;
        int bestLuck = NO_LUCK_YET;
        for (int more = 0; more <= MOST_LUMPS; more++) {
            beginTrialWithPenance(member, more);
            int trialLuck = trialLuckBehind(PENANCE_DAYS);
            if (trialLuck > bestLuck) {
                best = more;
                bestLuck = trialLuck;
            }
        }
        return best;
    }

    public double meanLuck() {
        if (memberCount == 0) {
            return 0.0;
        }
        int sum = 0;
        for (int member = 0; member < memberCount; member++) {
            sum += luck[member];
        }
        return (double) sum / (double) memberCount;
    }

    public long digest() {
        long d = DIGEST_START;
        d = mixed(d, day());
        d = mixed(d, members());
        d = mixed(d, salt());
        d = mixed(d, ledger());
        d = mixed(d, faults());
        d = mixed(d, faultsFound());
        d = mixed(d, luckiest());
        d = mixed(d, allArrears());
        for (int member = 0; member < memberCount; member++) {
            d = withMember(d, member);
        }
        for (int entry = 0; entry < throwCount; entry++) {
            d = withThrow(d, entry);
        }
        return d;
    }

    private long withMember(long start, int member) {
        long d = start;
        d = mixed(d, luckOf(member));
        d = mixed(d, arrearsOf(member));
        d = mixed(d, lumpsOf(member));
        d = mixed(d, dailyLoss(member));
        d = mixed(d, arrearsByAudit(member));
        d = mixed(d, bestPinch(member));
        d = mixed(d, bestPenance(member));
        return d;
    }

    private long withThrow(long start, int entry) {
        long d = start;
        d = mixed(d, memberOf(entry));
        d = mixed(d, isLeft(entry) ? 1 : 0);
        d = mixed(d, grainsOf(entry));
        d = mixed(d, excessOf(entry));
        return d;
    }

    private static long mixed(long d, int x) {
        return d * DIGEST_FACTOR + x;
    }

    // ---- what is refused

    private void checkMember(int member) {
        if (member < 0 || member >= memberCount) {
            throw new IndexOutOfBoundsException("no such member");
        }
    }

    private static void checkShoulder(int shoulder) {
        if (shoulder != LEFT && shoulder != RIGHT) {
            throw new IndexOutOfBoundsException("no such shoulder");
        }
    }

    private void checkEntry(int entry) {
        if (entry < 0 || entry >= throwCount) {
            throw new IndexOutOfBoundsException("no such throw");
        }
    }

    private static void checkAmount(int amount, int most) {
        if (amount < 1 || amount > most) {
            throw new IllegalArgumentException("too few or too many");
        }
    }

    private void checkCellar(int grains) {
        if (cellar < grains) {
            throw new IllegalStateException("the cellar has less salt");
        }
    }

    private void checkLedgerHasRoom() {
        if (throwCount >= MOST_THROWS) {
            throw new IllegalStateException("the ledger is full");
        }
    }

    // ---- rows: a member's, or the trial's

    private void addArrears(int row, int grains) {
        arrears[row] = Math.min(MOST_ARREARS, arrears[row] + grains);
    }

    private void lessenArrears(int row, int grains) {
        arrears[row] = Math.max(0, arrears[row] - grains);
    }

    private void addLumps(int row, int more) {
        toEat[row] = Math.min(MOST_LUMPS, toEat[row] + more);
    }

    private int leftExcess(int row, int grains) {
        return Math.max(0, grains - arrears[row]);
    }

    private int lossOf(int row) {
        if (toEat[row] > 0) {
            return 0;
        }
        return (arrears[row] + ARREARS_A_LOSS - 1) / ARREARS_A_LOSS;
    }

    private void eatOrFeelLuck(int row) {
        if (toEat[row] > 0) {
            toEat[row]--;
            lessenArrears(row, ARREARS_EATEN);
        } else if (arrears[row] > 0) {
            luck[row] = Math.max(0, luck[row] - lossOf(row));
        } else {
            luck[row] = Math.min(MOST_LUCK, luck[row] + 1);
        }
    }

    // ---- days and throws

    private int passOneDay() {
        int faulty = isAuditDay(today) ? audit() : 0;
        for (int member = 0; member < memberCount; member++) {
            eatOrFeelLuck(member);
        }
        today++;
        return faulty;
    }

    private static boolean isAuditDay(int someDay) {
        return someDay % AUDIT_EVERY == AUDIT_LEFT;
    }

    private void writeThrow(int member, boolean left, int grains, int excess) {
        throwers[throwCount] = member;
        lefts[throwCount] = left;
        thrown[throwCount] = grains;
        excesses[throwCount] = excess;
        throwCount++;
    }

    /**
     * What an audit adds for a member, without the bound. An audit takes nothing off, so to bound
     * the sum once comes to the same as to bound it at each throw.
     */
    private int debtOf(int member) {
        int debt = 0;
        for (int entry = 0; entry < throwCount; entry++) {
            if (throwers[entry] == member) {
                debt += ARREARS_AN_EXCESS * excesses[entry];
            }
        }
        return debt;
    }

    // ---- the trial: no member's days depend on another's, so one row is enough

    private void beginTrial(int member) {
        luck[TRIAL] = luck[member];
        arrears[TRIAL] = arrears[member];
        toEat[TRIAL] = toEat[member];
        trialDay = today;
        trialDebt = debtOf(member);
    }

    private void beginTrialWithPinch(int member, int grains) {
        beginTrial(member);
        trialDebt += ARREARS_AN_EXCESS * leftExcess(TRIAL, grains);
        lessenArrears(TRIAL, grains);
    }

    private void beginTrialWithPenance(int member, int more) {
        beginTrial(member);
        addLumps(TRIAL, more);
    }

    private void passTrialDay() {
        if (isAuditDay(trialDay)) {
            addArrears(TRIAL, trialDebt);
            trialDebt = 0;
        }
        eatOrFeelLuck(TRIAL);
        trialDay++;
    }

    private int trialLuckBehind(int days) {
        for (int i = 0; i < days; i++) {
            passTrialDay();
        }
        return luck[TRIAL];
    }
}
