/**
 * A time clock and a union: workers hold shifts, rules that are read from a text
 * make claims for shifts that break them, and offers in a ring swap shifts.
 *
 * Rows of objects stand full from the front and are null behind that, so a loop
 * over a row tests each element against null and needs no count of its own.
 */
public final class UnionClock {
    public static final int NONE = -1;
    public static final int REST = 0, WEEK = 1, ROW = 2, LONG = 3;
    public static final int OPEN = 0, PAID = 1, VOID = 2, OWED = 3;

    private static final int LAST_HOUR = 2000;
    private static final int DAY_HOURS = 24;
    private static final int WEEK_HOURS = 168;
    private static final int LAST_WEEK = 11;
    private static final int MOST_PASSED = 200;

    private static final int WORKERS = 8;
    private static final int ALL_SKILLS = 15;
    private static final int LAST_SKILL = 3;
    private static final int FIRST_WAGE = 10;
    private static final int MOST_WAGE = 1000;

    private static final int MOST_SHIFTS = 40;
    private static final int MOST_PLANNED_HOURS = 16;
    private static final int MOST_STAMPED_HOURS = 24;
    private static final int LATEST_STAMP = 100;
    private static final int NOTHING_AHEAD = 10000;

    private static final int MOST_SIGNS = 40;
    private static final int MOST_RULES = 12;
    private static final int MOST_NUMBER = 200;
    private static final int MOST_DIGITS = 3;

    private static final int MOST_CLAIMS = 200;
    private static final int MOST_OFFERS = 40;
    private static final int MOST_IN_RING = 8;

    private final Worker[] workers = new Worker[WORKERS];
    private final Shift[] shifts = new Shift[MOST_SHIFTS];
    private final Rule[] rules = new Rule[MOST_RULES];
    private final Claim[] madeClaims = new Claim[MOST_CLAIMS];
    private final Offer[] madeOffers = new Offer[MOST_OFFERS];
    private final Offer[] ringRow = new Offer[MOST_IN_RING];
    private final RuleText text = new RuleText();
    private int shiftCount;
    private int ruleCount;
    private int claimCount;
    private int offerCount;
    private int now;

    public UnionClock() {
        for (int i = 0; i < workers.length; i++) {
            workers[i] = new Worker(i);
        }
    }

    // ---- time, workers, shifts

    public int pass(int hours) throws IllegalArgumentException, IllegalStateException {
        if (hours < 1 || hours > MOST_PASSED) {
            throw new IllegalArgumentException("hours are 1 to 200");
        }
        if (now + hours > LAST_HOUR) {
            throw new IllegalStateException("now is at most 2000");
        }
        now += hours;
        return now;
    }

    public int worker(int worker, int skills, int wage)
            throws IndexOutOfBoundsException, IllegalArgumentException {
        Worker changed = theWorker(worker);
        if (skills < 0 || skills > ALL_SKILLS || wage < 0 || wage > MOST_WAGE) {
            throw new IllegalArgumentException("skills are 0 to 15, a wage is 0 to 1000");
        }
        int before = changed.wage;
        changed.skills = skills;
        changed.wage = wage;
        return before;
    }

    public int shift(int begin, int hours, int skill)
            throws IllegalArgumentException, IllegalStateException {
        if (begin < 0 || begin > LAST_HOUR || hours < 1 || hours > MOST_PLANNED_HOURS
                || skill < 0 || skill > LAST_SKILL) {
            throw new IllegalArgumentException("begin is 0 to 2000, hours 1 to 16, skill 0 to 3");
        }
        if (shiftCount >= shifts.length) {
            throw new IllegalStateException("there are 40 shifts");
        }
        int number = shiftCount;
        shifts[number] = new Shift(number, begin, hours, skill);
        shiftCount++;
        return number;
    }

    public int hold(int shift, int worker) throws IndexOutOfBoundsException, IllegalStateException {
        Shift held = theShift(shift);
        Worker taker = worker == NONE ? null : theWorker(worker);
        if (taker != null && !taker.canTake(held, null)) {
            throw new IllegalStateException("the worker cannot hold the shift");
        }
        int before = held.holderNumber();
        if (held.holder != taker) {
            handOver(held, taker);
            judgeAll();
        }
        return before;
    }

    public int stamp(int shift, int begin, int end)
            throws IndexOutOfBoundsException, IllegalArgumentException, IllegalStateException {
        Shift stamped = theShift(shift);
        if (begin < 0 || begin > now || end <= begin || end > begin + MOST_STAMPED_HOURS || end > now) {
            throw new IllegalArgumentException("begin is up to now, end 1 to 24 hours behind it, up to now");
        }
        Worker holder = stamped.holder;
        if (holder == null || now > stamped.plannedEnd + LATEST_STAMP) {
            throw new IllegalStateException("nobody holds the shift, or it is too late");
        }
        // The begin decides the place in the order, so the shift leaves the order while it changes.
        holder.remove(stamped);
        stamped.begin = begin;
        stamped.end = end;
        holder.add(stamped);
        judgeAll();
        return stamped.hours() - stamped.plannedHours();
    }

    public int holder(int shift) throws IndexOutOfBoundsException {
        return theShift(shift).holderNumber();
    }

    public int shiftOf(int worker, int place) throws IndexOutOfBoundsException {
        Shift found = theWorker(worker).shiftAt(place);
        if (found == null) {
            throw new IndexOutOfBoundsException("the worker has not so many shifts");
        }
        return found.number;
    }

    public int rest(int shift) throws IndexOutOfBoundsException {
        Shift asked = theShift(shift);
        return asked.holder == null ? NOTHING_AHEAD : asked.holder.restAhead(asked);
    }

    // ---- rules

    public int put(char letter) throws IllegalArgumentException, IllegalStateException {
        if (!RuleText.isAllowed(letter)) {
            throw new IllegalArgumentException("a character is A to Z, 0 to 9, or a space");
        }
        if (text.isFull()) {
            throw new IllegalStateException("the text has 40 characters");
        }
        text.append(letter);
        return text.length;
    }

    public int empty() {
        int before = text.length;
        text.clear();
        return before;
    }

    public int wrongAt() {
        return text.parse();
    }

    public int read() throws IllegalArgumentException, IllegalStateException {
        if (text.parse() != NONE) {
            throw new IllegalArgumentException("the text is no rule");
        }
        if (ruleCount >= rules.length) {
            throw new IllegalStateException("12 rules were read");
        }
        int number = ruleCount;
        rules[number] = new Rule(number, text);
        ruleCount++;
        text.clear();
        judgeAll();
        return number;
    }

    public int drop(int rule) throws IndexOutOfBoundsException, IllegalStateException {
        Rule dropped = theRule(rule);
        if (dropped.isDropped) {
            throw new IllegalStateException("the rule was dropped");
        }
        dropped.isDropped = true;
        return judgeAll();
    }

    public boolean breaks(int shift, int rule) throws IndexOutOfBoundsException {
        return theRule(rule).isBrokenBy(theShift(shift));
    }

    public int breaches(int worker, int week) throws IndexOutOfBoundsException, IllegalArgumentException {
        Worker judged = theWorker(worker);
        if (week < 0 || week > LAST_WEEK) {
            throw new IllegalArgumentException("weeks are 0 to 11");
        }
        int pairs = 0;
        for (Shift shift : judged.order) {
            if (shift != null && shift.week() == week) {
                pairs += brokenBy(shift);
            }
        }
        return pairs;
    }

    // ---- claims and wages

    public int claims() {
        return claimCount;
    }

    public int state(int claim) throws IndexOutOfBoundsException {
        return theClaim(claim).state;
    }

    public int about(int claim) throws IndexOutOfBoundsException {
        Claim asked = theClaim(claim);
        return 10000 * asked.worker.number + 100 * asked.shift.number + asked.rule.number;
    }

    public int worth(int claim) throws IndexOutOfBoundsException {
        return theClaim(claim).worthNow();
    }

    public int pay(int claim) throws IndexOutOfBoundsException, IllegalStateException {
        Claim paid = theClaim(claim);
        if (paid.state != OPEN) {
            throw new IllegalStateException("the claim is not OPEN");
        }
        paid.state = PAID;
        paid.cents = paid.worthNow();
        return paid.cents;
    }

    public int takeBack(int claim) throws IndexOutOfBoundsException, IllegalStateException {
        Claim owed = theClaim(claim);
        if (owed.state != OWED) {
            throw new IllegalStateException("the claim is not OWED");
        }
        int cents = owed.cents;
        owed.state = VOID;
        owed.cents = 0;
        return cents;
    }

    public int wages(int worker) throws IndexOutOfBoundsException {
        Worker paid = theWorker(worker);
        int cents = paid.hoursEndedBy(now) * paid.wage;
        for (Claim claim : madeClaims) {
            if (claim != null && claim.worker == paid) {
                cents += claim.cents;
            }
        }
        return cents;
    }

    // ---- swaps

    public int offer(int gives, int wants) throws IndexOutOfBoundsException, IllegalStateException {
        Shift given = theShift(gives);
        Shift wanted = theShift(wants);
        Worker giver = given.holder;
        if (giver == null || wanted.holder == null || giver == wanted.holder
                || !isBehindNow(given) || !isBehindNow(wanted)) {
            throw new IllegalStateException("two workers hold the shifts, which begin behind now");
        }
        if (offerCount >= madeOffers.length) {
            throw new IllegalStateException("40 offers were made");
        }
        int number = offerCount;
        madeOffers[number] = new Offer(giver, given, wanted);
        offerCount++;
        return number;
    }

    public int withdraw(int offer) throws IndexOutOfBoundsException, IllegalStateException {
        Offer taken = theOffer(offer);
        if (!taken.isThere) {
            throw new IllegalStateException("the offer is not there any more");
        }
        taken.isThere = false;
        return offersThere();
    }

    public int offers() {
        return offersThere();
    }

    public int ring(int offer) throws IndexOutOfBoundsException {
        return gatherRing(theOffer(offer));
    }

    public int swap(int offer) throws IndexOutOfBoundsException, IllegalStateException {
        if (gatherRing(theOffer(offer)) == 0 || !ringCanSwap()) {
            throw new IllegalStateException("there is no ring, or it cannot swap");
        }
        int before = claimCount;
        for (Offer taken : ringRow) {
            if (taken != null) {
                handOver(taken.wants, taken.worker);
            }
        }
        judgeAll();
        return claimCount - before;
    }

    // ---- what a number names

    private Worker theWorker(int number) {
        Worker found = number < 0 || number >= workers.length ? null : workers[number];
        if (found == null) {
            throw new IndexOutOfBoundsException("no such worker");
        }
        return found;
    }

    private Shift theShift(int number) {
        Shift found = number < 0 || number >= shifts.length ? null : shifts[number];
        if (found == null) {
            throw new IndexOutOfBoundsException("no such shift");
        }
        return found;
    }

    private Rule theRule(int number) {
        Rule found = number < 0 || number >= rules.length ? null : rules[number];
        if (found == null) {
            throw new IndexOutOfBoundsException("no such rule");
        }
        return found;
    }

    private Claim theClaim(int number) {
        Claim found = number < 0 || number >= madeClaims.length ? null : madeClaims[number];
        if (found == null) {
            throw new IndexOutOfBoundsException("no such claim");
        }
        return found;
    }

    private Offer theOffer(int number) {
        Offer found = number < 0 || number >= madeOffers.length ? null : madeOffers[number];
        if (found == null) {
            throw new IndexOutOfBoundsException("no such offer");
        }
        return found;
    }

    // ---- judging

    /** Judges all anew; answers how many claims became VOID or OWED. */
    private int judgeAll() {
        int lapsed = 0;
        for (Claim claim : madeClaims) {
            if (claim != null && !claim.isFounded() && claim.lapse()) {
                lapsed++;
            }
        }
        for (Shift shift : shifts) {
            if (shift != null && shift.holder != null) {
                claimFor(shift, shift.holder);
            }
        }
        return lapsed;
    }

    private void claimFor(Shift shift, Worker holder) {
        for (Rule rule : rules) {
            if (rule != null && rule.isBrokenBy(shift)) {
                Claim claim = shift.claimOf(holder, rule);
                if (claim == null) {
                    makeClaim(holder, shift, rule);
                } else {
                    claim.revive();
                }
            }
        }
    }

    private void makeClaim(Worker worker, Shift shift, Rule rule) {
        if (claimCount >= madeClaims.length) {
            return;
        }
        Claim made = new Claim(worker, shift, rule);
        shift.newestClaim = made;
        madeClaims[claimCount] = made;
        claimCount++;
    }

    private int brokenBy(Shift shift) {
        int broken = 0;
        for (Rule rule : rules) {
            if (rule != null && rule.isBrokenBy(shift)) {
                broken++;
            }
        }
        return broken;
    }

    // ---- giving and swapping

    /** Gives a shift to another worker, or to null; the caller judges when all is given. */
    private void handOver(Shift shift, Worker taker) {
        if (shift.holder != null) {
            shift.holder.remove(shift);
        }
        shift.holder = taker;
        if (taker != null) {
            taker.add(shift);
        }
        for (Offer offer : madeOffers) {
            if (offer != null && (offer.gives == shift || offer.wants == shift)) {
                offer.isThere = false;
            }
        }
    }

    private boolean isBehindNow(Shift shift) {
        return shift.plannedBegin > now;
    }

    private int offersThere() {
        int there = 0;
        for (Offer offer : madeOffers) {
            if (offer != null && offer.isThere) {
                there++;
            }
        }
        return there;
    }

    /** Puts the ring of an offer into the row of the ring; answers its length, 0 if there is none. */
    private int gatherRing(Offer first) {
        for (int i = 0; i < ringRow.length; i++) {
            ringRow[i] = null;
        }
        Offer next = first;
        for (int i = 0; i < ringRow.length; i++) {
            if (next == null || !next.isThere || isInRing(next.worker)) {
                return 0;
            }
            ringRow[i] = next;
            if (next.wants == first.gives) {
                return i + 1;
            }
            next = lowestGiving(next.wants);
        }
        return 0;
    }

    private boolean isInRing(Worker worker) {
        for (Offer offer : ringRow) {
            if (offer != null && offer.worker == worker) {
                return true;
            }
        }
        return false;
    }

    private Offer lowestGiving(Shift shift) {
        for (Offer offer : madeOffers) {
            if (offer != null && offer.isThere && offer.gives == shift) {
                return offer;
            }
        }
        return null;
    }

    private boolean ringCanSwap() {
        for (Offer offer : ringRow) {
            if (offer != null
                    && !(isBehindNow(offer.wants) && offer.worker.canTake(offer.wants, offer.gives))) {
                return false;
            }
        }
        return true;
    }

    private static final class Worker {
        final int number;
        /** The shifts that the worker holds, in the order of the worker. */
        final Shift[] order = new Shift[MOST_SHIFTS];
        int skills;
        int wage = FIRST_WAGE;

        Worker(int number) {
            this.number = number;
        }

        void add(Shift shift) {
            Shift carried = shift;
            for (int i = 0; i < order.length && carried != null; i++) {
                Shift here = order[i];
                if (here == null || carried.isAheadOf(here)) {
                    order[i] = carried;
                    carried = here;
                }
            }
        }

        void remove(Shift shift) {
            boolean found = false;
            for (int i = 0; i < order.length; i++) {
                found = found || order[i] == shift;
                if (found) {
                    order[i] = shiftAt(i + 1);
                }
            }
        }

        Shift shiftAt(int place) {
            return place < 0 || place >= order.length ? null : order[place];
        }

        int placeOf(Shift shift) {
            for (int i = 0; i < order.length; i++) {
                if (order[i] == shift) {
                    return i;
                }
            }
            return NONE;
        }

        /** Whether the worker can hold a shift when the given one, if any, is given away. */
        boolean canTake(Shift shift, Shift given) {
            if ((skills >> shift.skill & 1) == 0) {
                return false;
            }
            for (Shift other : order) {
                if (other != null && other != shift && other != given && other.overlaps(shift)) {
                    return false;
                }
            }
            return true;
        }

        int restAhead(Shift shift) {
            Shift ahead = shiftAt(placeOf(shift) - 1);
            return ahead == null ? NOTHING_AHEAD : shift.begin - ahead.end;
        }

        /** The hours of a shift and of those ahead of it that begin in its week. */
        int weekHours(Shift shift) {
            int hours = 0;
            for (int i = placeOf(shift); i >= 0; i--) {
                Shift inWeek = shiftAt(i);
                if (inWeek == null || inWeek.week() != shift.week()) {
                    break;
                }
                hours += inWeek.hours();
            }
            return hours;
        }

        /** How many days just ahead of the day of a shift have begins of shifts, one by one. */
        int daysAhead(Shift shift) {
            int firstDay = shift.day();
            for (int i = placeOf(shift) - 1; i >= 0; i--) {
                Shift ahead = shiftAt(i);
                if (ahead == null || ahead.day() < firstDay - 1) {
                    break;
                }
                firstDay = ahead.day();
            }
            return shift.day() - firstDay;
        }

        int hoursEndedBy(int hour) {
            int hours = 0;
            for (Shift shift : order) {
                if (shift != null && shift.end <= hour) {
                    hours += shift.hours();
                }
            }
            return hours;
        }
    }

    private static final class Shift {
        final int number;
        final int skill;
        final int plannedBegin;
        final int plannedEnd;
        /** By stamps, as is the end; they stay with the shift whoever holds it. */
        int begin;
        int end;
        /** The worker who holds the shift, or null. */
        Worker holder;
        /** The head of the chain of the claims of this shift. */
        Claim newestClaim;

        Shift(int number, int begin, int hours, int skill) {
            this.number = number;
            this.skill = skill;
            this.plannedBegin = begin;
            this.plannedEnd = begin + hours;
            this.begin = begin;
            this.end = begin + hours;
        }

        int holderNumber() {
            return holder == null ? NONE : holder.number;
        }

        int hours() {
            return end - begin;
        }

        int plannedHours() {
            return plannedEnd - plannedBegin;
        }

        int day() {
            return begin / DAY_HOURS;
        }

        int week() {
            return begin / WEEK_HOURS;
        }

        boolean overlaps(Shift other) {
            return plannedBegin < other.plannedEnd && other.plannedBegin < plannedEnd;
        }

        boolean isAheadOf(Shift other) {
            return begin < other.begin || begin == other.begin && number < other.number;
        }

        Claim claimOf(Worker worker, Rule rule) {
            for (Claim claim = newestClaim; claim != null; claim = claim.older) {
                if (claim.worker == worker && claim.rule == rule) {
                    return claim;
                }
            }
            return null;
        }
    }

    private static final class Rule {
        final int number;
        final int kind;
        final int limit;
        /** The one skill whose shifts can break the rule, or NONE. */
        final int skill;
        final int percent;
        boolean isDropped;

        /** The text has just been parsed as a rule. */
        Rule(int number, RuleText parsed) {
            this.number = number;
            this.kind = parsed.kind;
            this.limit = parsed.limit;
            this.skill = parsed.skill;
            this.percent = parsed.percent;
        }

        boolean isBrokenBy(Shift shift) {
            Worker holder = shift.holder;
            if (isDropped || holder == null || skill != NONE && skill != shift.skill) {
                return false;
            }
            switch (kind) {
                case REST:
                    return holder.restAhead(shift) < limit;
                case WEEK:
                    return holder.weekHours(shift) > limit;
                case ROW:
                    return holder.daysAhead(shift) >= limit;
                case LONG:
                    return shift.hours() > limit;
                default:
                    return false;
            }
        }
    }

    private static final class Claim {
        final Worker worker;
        final Shift shift;
        final Rule rule;
        /** The claim of the same shift that was made before this one, or null. */
        final Claim older;
        int state = OPEN;
        /** What was paid and not taken back. */
        int cents;

        Claim(Worker worker, Shift shift, Rule rule) {
            this.worker = worker;
            this.shift = shift;
            this.rule = rule;
            this.older = shift.newestClaim;
        }

        boolean isFounded() {
            return shift.holder == worker && rule.isBrokenBy(shift);
        }

        /** Answers whether the state changed. */
        boolean lapse() {
            if (state == OPEN) {
                state = VOID;
                return true;
            }
            if (state == PAID) {
                state = OWED;
                return true;
            }
            return false;
        }

        void revive() {
            if (state == VOID) {
                state = OPEN;
            } else if (state == OWED) {
                state = PAID;
            }
        }

        int worthNow() {
            return shift.hours() * worker.wage * rule.percent / 100;
        }
    }

    private static final class Offer {
        /** Kept here, since the shift that is given has another holder in the midst of a swap. */
        final Worker worker;
        final Shift gives;
        final Shift wants;
        boolean isThere = true;

        Offer(Worker worker, Shift gives, Shift wants) {
            this.worker = worker;
            this.gives = gives;
            this.wants = wants;
        }
    }

    /** The text, and what it tells if it is a rule. */
    private static final class RuleText {
        private final char[] signs = new char[MOST_SIGNS];
        int length;
        private int wordBegin;
        private int wordEnd;
        int kind;
        int limit;
        int skill;
        int percent;

        static boolean isAllowed(char sign) {
            return sign == ' ' || isDigit(sign) || sign >= 'A' && sign <= 'Z';
        }

        static boolean isDigit(char sign) {
            return sign >= '0' && sign <= '9';
        }

        boolean isFull() {
            return length >= signs.length;
        }

        void append(char sign) {
            if (length < signs.length) {
                signs[length] = sign;
                length++;
            }
        }

        void clear() {
            length = 0;
        }

        /** Answers the place where the text is wrong, or NONE: its parts can be asked then. */
        int parse() {
            wordEnd = 0;
            nextWord();
            kind = kindOfWord();
            if (kind == NONE) {
                return wordBegin;
            }
            nextWord();
            limit = numberOfWord(MOST_DIGITS);
            if (limit < 1 || limit > MOST_NUMBER) {
                return wordBegin;
            }
            nextWord();
            skill = NONE;
            if (isWord("SKILL")) {
                nextWord();
                skill = numberOfWord(1);
                if (skill < 0 || skill > LAST_SKILL) {
                    return wordBegin;
                }
                nextWord();
            }
            if (!isWord("PAY")) {
                return wordBegin;
            }
            nextWord();
            percent = numberOfWord(MOST_DIGITS);
            if (percent < 0 || percent > MOST_NUMBER) {
                return wordBegin;
            }
            nextWord();
            return wordBegin < wordEnd ? wordBegin : NONE;
        }

        /** Behind the last word comes an empty one at the end, the place of a missing word. */
        private void nextWord() {
            wordBegin = wordEnd;
            while (wordBegin < length && signAt(wordBegin) == ' ') {
                wordBegin++;
            }
            wordEnd = wordBegin;
            while (wordEnd < length && signAt(wordEnd) != ' ') {
                wordEnd++;
            }
        }

        private char signAt(int place) {
            return place < 0 || place >= signs.length ? ' ' : signs[place];
        }

        private int kindOfWord() {
            if (isWord("REST")) {
                return REST;
            }
            if (isWord("WEEK")) {
                return WEEK;
            }
            if (isWord("ROW")) {
                return ROW;
            }
            return isWord("LONG") ? LONG : NONE;
        }

        private boolean isWord(String word) {
            if (wordEnd - wordBegin != word.length()) {
                return false;
            }
            for (int i = 0; i < word.length(); i++) {
                if (signAt(wordBegin + i) != word.charAt(i)) {
                    return false;
                }
            }
            return true;
        }

        /** The number that the word tells, or NONE if it is none of so many digits. */
        private int numberOfWord(int mostDigits) {
            int digits = wordEnd - wordBegin;
            if (digits < 1 || digits > mostDigits) {
                return NONE;
            }
            int number = 0;
            for (int i = wordBegin; i < wordEnd; i++) {
                char sign = signAt(i);
                if (!isDigit(sign)) {
                    return NONE;
                }
                number = number * 10 + (sign - '0');
            }
            return number;
        }
    }
}
