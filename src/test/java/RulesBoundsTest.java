/** The bounds that the document names in 'Rules' and promises 10 to 16, sentence by sentence. */
public final class RulesBoundsTest {
    private static final int NONE = -1;
    private static final int LONGEST = 40;

    private static final Due due = new Due();
    private static final Refusals refused = new Refusals(due);

    public static void main(String[] args) {
        texts();
        words();
        rules();
        breaking();
        put();
        empty();
        wrongAt();
        read();
        drop();
        breaks();
        breaches();
        due.allQuoted("Rules", "Promise 10", "Promise 11", "Promise 12", "Promise 13", "Promise 14", "Promise 15",
                "Promise 16");
        due.end();
    }

    /** The answer of wrongAt for a text; read must agree with it. */
    private static int wrongAt(String text) {
        UnionClock clock = new UnionClock();
        Clocks.put(clock, text);
        int place = clock.wrongAt();
        if (place == NONE) {
            due.is("read() of '" + text + "'", clock.read(), 0);
        } else {
            due.badArgument("read() of '" + text + "'", () -> clock.read());
        }
        return place;
    }

    private static void wrong(String text, int place) {
        due.is("wrongAt() of '" + text + "'", wrongAt(text), place);
    }

    // ---- Rules: texts and words

    private static void texts() {
        ruleIsToldAsAText();
        textHasItsCharacters();
        textHasAtMost40();
        wordsAreLongestRows();
    }

    private static void ruleIsToldAsAText() {
        due.sentence("Rules", "A rule is told as a text.");
        UnionClock clock = Clocks.ofAllSkills();
        Clocks.held(clock, 10, 9, 0);
        due.is("told", Clocks.read(clock, "LONG 8 PAY 50"), 0);
        due.yes("broken", clock.breaks(0, 0));
        due.is("worth 9 hours of 10 times 50 of 100", clock.worth(0), 45);
    }

    private static void textHasItsCharacters() {
        due.sentence("Rules", "A text has characters, A to Z, 0 to 9, and spaces");
        for (int begin = 0; begin <= Character.MAX_VALUE; begin += 256) {
            UnionClock clock = new UnionClock();
            for (int number = begin; number < begin + 256; number++) {
                char letter = (char) number;
                if ("ABCDEFGHIJKLMNOPQRSTUVWXYZ0123456789 ".indexOf(letter) >= 0) {
                    due.is("put " + number, clock.put(letter), 1);
                    due.is("empty behind " + number, clock.empty(), 1);
                } else {
                    due.badArgument("put " + number, () -> clock.put(letter));
                }
            }
            due.is("empty", clock.empty(), 0);
        }
    }

    private static void textHasAtMost40() {
        due.sentence("Rules", "at most 40");
        String rule = "LONG 8 PAY 5";
        for (int spaces = 0; spaces <= LONGEST - rule.length(); spaces++) {
            wrong(" ".repeat(spaces) + rule, NONE);
            wrong(rule + " ".repeat(spaces), NONE);
        }
        UnionClock clock = new UnionClock();
        for (int length = 1; length <= LONGEST; length++) {
            due.is("put the " + length + "th", clock.put('9'), length);
        }
        due.badState("put the 41st", () -> clock.put('9'));
        due.is("empty()", clock.empty(), LONGEST);
    }

    private static void wordsAreLongestRows() {
        due.sentence("Rules", "Its words are the longest rows of characters without spaces.");
        wrong("LONG 8 PAY 5", NONE);
        wrong(" LONG  8   PAY    5     ", NONE);
        wrong("LONG8 PAY 5", 0);
        wrong("LONG 8PAY 5", 5);
        wrong("LONG 8 PAY5", 7);
        wrong("LO NG 8 PAY 5", 0);
        wrong("LONG 8 PA Y 5", 7);
        wrong("LONG 8 PAY 1 5", 13);
        wrong("LONG 1 8 PAY 5", 7);
        wrong("LONG 8 SKILL3 PAY 5", 7);
        wrong("LONG8PAY5", 0);
    }

    private static void words() {
        firstWord();
        numberOfARule();
        perhapsSkill();
        pay();
        numberBehindPay();
        noMore();
    }

    private static void firstWord() {
        due.sentence("Rules", "It is a rule if its words are, in this order: one of REST, WEEK, ROW, LONG");
        for (String kind : new String[] {"REST", "WEEK", "ROW", "LONG"}) {
            wrong(kind + " 8 PAY 5", NONE);
            wrong("  " + kind + " 8 SKILL 2 PAY 5", NONE);
            wrong(kind.substring(1) + " 8 PAY 5", 0);
            wrong(kind.substring(0, kind.length() - 1) + " 8 PAY 5", 0);
            wrong(kind + "S 8 PAY 5", 0);
            wrong("A" + kind + " 8 PAY 5", 0);
            wrong(kind + kind + " 8 PAY 5", 0);
            wrong(kind + " " + kind + " 8 PAY 5", kind.length() + 1);
            for (int i = 0; i < kind.length(); i++) {
                wrong(" " + kind.substring(0, i) + "Q" + kind.substring(i + 1) + " 8 PAY 5", 1);
            }
        }
        for (String other : new String[] {"PAY", "SKILL", "8", "0", "A", "OPEN", "NONE", "LAST", "ROWS", "WEAK"}) {
            wrong(other + " 8 PAY 5", 0);
        }
    }

    private static void numberOfARule() {
        due.sentence("Rules", "a number of 1 to 3 digits, 1 to 200");
        for (int number = 0; number <= 999; number++) {
            boolean isDue = number >= 1 && number <= 200;
            wrong("ROW " + number + " PAY 5", isDue ? NONE : 4);
            wrong(String.format("ROW %02d PAY 5", number), isDue ? NONE : 4);
            wrong(String.format("ROW %03d PAY 5", number), isDue ? NONE : 4);
            wrong(String.format("ROW %04d PAY 5", number), 4);
        }
        for (String other : new String[] {"1000", "0001", "A", "1A", "A1", "1A1", "O", "00000000001", "4294967297"}) {
            wrong("ROW " + other + " PAY 5", 4);
        }
        wrong("ROW PAY 5", 4);
        wrong("ROW SKILL 1 PAY 5", 4);
    }

    private static void perhapsSkill() {
        due.sentence("Rules", "perhaps SKILL, and behind that a number of one digit, 0 to 3");
        wrong("ROW 8 PAY 5", NONE);
        for (int number = 0; number <= 99; number++) {
            wrong("ROW 8 SKILL " + number + " PAY 5", number <= 3 ? NONE : 12);
            wrong(String.format("ROW 8 SKILL %02d PAY 5", number), 12);
        }
        for (String other : new String[] {"A", "000", "001", "3A", "A3", "PAY"}) {
            wrong("ROW 8 SKILL " + other + " PAY 5", 12);
        }
        for (String other : new String[] {"SKIL", "SKILLS", "KILL", "SKALL", "SSKILL", "3"}) {
            wrong("ROW 8 " + other + " 3 PAY 5", 6);
        }
        wrong("ROW 8 SKILL 3 SKILL 3 PAY 5", 14);
        wrong("ROW 8 PAY 5 SKILL 3", 12);
        wrong("ROW SKILL 3 8 PAY 5", 4);
        wrong("SKILL 3 ROW 8 PAY 5", 0);
    }

    private static void pay() {
        due.sentence("Rules", "PAY;");
        for (String other : new String[] {"PA", "AY", "PAYS", "SPAY", "PAX", "PLAY", "5", "ROW"}) {
            wrong("ROW 8 " + other + " 5", 6);
            wrong("ROW 8 SKILL 3 " + other + " 5", 14);
        }
        wrong("ROW 8 5", 6);
        wrong("ROW 8 PAY PAY 5", 10);
    }

    private static void numberBehindPay() {
        due.sentence("Rules", "a number of 1 to 3 digits, 0 to 200");
        for (int number = 0; number <= 999; number++) {
            boolean isDue = number <= 200;
            wrong("ROW 8 PAY " + number, isDue ? NONE : 10);
            wrong(String.format("ROW 8 PAY %02d", number), isDue ? NONE : 10);
            wrong(String.format("ROW 8 PAY %03d", number), isDue ? NONE : 10);
            wrong(String.format("ROW 8 PAY %04d", number), 10);
        }
        for (String other : new String[] {"1000", "0000", "A", "1A", "A1", "1A1", "O", "00000000001", "4294967297"}) {
            wrong("ROW 8 PAY " + other, 10);
            wrong("ROW 8 SKILL 3 PAY " + other, 18);
        }
    }

    private static void noMore() {
        due.sentence("Rules", "and no more.");
        for (String other : new String[] {"5", "A", "PAY", "SKILL", "ROW", "0"}) {
            wrong("ROW 8 PAY 5 " + other, 12);
            wrong("ROW 8 SKILL 3 PAY 5   " + other, 22);
        }
        wrong("ROW 8 PAY 5 ", NONE);
        wrong("ROW 8 PAY 5                             ", NONE);
        wrong("ROW 8 PAY 5                            5", 39);
    }

    // ---- Rules: how many, and skills

    private static void rules() {
        atMost12Rules();
        ruleHoldsUntilItIsDropped();
        ruleWithASkill();
    }

    private static void atMost12Rules() {
        due.sentence("Rules", "Rules are numbered from 0, at most 12 are ever read");
        UnionClock clock = Clocks.ofAllSkills();
        Clocks.held(clock, 10, 9, 0);
        for (int number = 0; number < 12; number++) {
            int asked = number;
            due.outOfBounds("not read yet", () -> clock.breaks(0, asked));
            due.is("the next", Clocks.read(clock, "LONG 8 PAY 1"), number);
            due.yes("it holds", clock.breaks(0, number));
        }
        Clocks.put(clock, "LONG 8 PAY 1");
        due.badState("the 13th", () -> clock.read());
        due.is("the last is dropped", clock.drop(11), 1);
        due.badState("the 13th, with one dropped", () -> clock.read());
        due.outOfBounds("no rule 12", () -> clock.breaks(0, 12));
        due.is("breaches", clock.breaches(0, 0), 11);
    }

    private static void ruleHoldsUntilItIsDropped() {
        due.sentence("Rules", "a rule holds until it is dropped.");
        UnionClock clock = Clocks.ofAllSkills();
        int shift = Clocks.held(clock, 10, 9, 0);
        int rule = Clocks.read(clock, "LONG 8 PAY 1");
        Clocks.read(clock, "LONG 9 PAY 1");
        Clocks.passTo(clock, 2000);
        due.yes("whatever time it is", clock.breaks(shift, rule));
        clock.hold(shift, 1);
        due.yes("whoever holds the shift", clock.breaks(shift, rule));
        clock.drop(1);
        due.yes("whatever other rule is dropped", clock.breaks(shift, rule));
        clock.drop(rule);
        due.no("dropped", clock.breaks(shift, rule));
    }

    private static void ruleWithASkill() {
        due.sentence("Rules", "A rule with a SKILL can be broken by shifts of that skill alone "
                + "(what is ahead of them, or in their week or row of days, counts whatever its skill).");
        for (int ahead = 0; ahead <= 3; ahead++) {
            for (int skill = 0; skill <= 3; skill++) {
                for (int ofRule = 0; ofRule <= 3; ofRule++) {
                    skillCounts(ahead, skill, ofRule);
                }
            }
        }
    }

    private static void skillCounts(int skillAhead, int skill, int skillOfRule) {
        for (String kind : new String[] {"REST 16", "WEEK 17", "ROW 1", "LONG 8"}) {
            UnionClock clock = Clocks.ofAllSkills();
            clock.hold(clock.shift(0, 9, skillAhead), 0);
            clock.hold(clock.shift(24, 9, skill), 0);
            Clocks.read(clock, kind + " SKILL " + skillOfRule + " PAY 1");
            due.is(kind + " of " + skillOfRule + " by the second", clock.breaks(1, 0) ? 1 : 0,
                    skill == skillOfRule ? 1 : 0);
            due.is(kind + " of " + skillOfRule + " by the first", clock.breaks(0, 0) ? 1 : 0,
                    skillAhead == skillOfRule && kind.equals("LONG 8") ? 1 : 0);
            Clocks.read(clock, kind + " PAY 1");
            due.yes(kind + " of any skill", clock.breaks(1, 1));
        }
    }

    // ---- Rules: what breaks them

    private static void breaking() {
        breakingHeldShifts();
        breakingRest();
        breakingRestInTheOrder();
        breakingWeek();
        breakingWeekOf200();
        breakingWeekAtItsEnds();
        breakingRow();
        breakingRowByManyShifts();
        breakingRowByStamps();
        breakingLong();
    }

    private static void breakingHeldShifts() {
        due.sentence("Rules", "A shift that a worker holds breaks a rule with the number n:");
        UnionClock clock = Clocks.ofAllSkills();
        int shift = clock.shift(10, 9, 0);
        int rule = Clocks.read(clock, "LONG 8 PAY 1");
        due.no("nobody holds it", clock.breaks(shift, rule));
        clock.hold(shift, 0);
        due.yes("one holds it", clock.breaks(shift, rule));
        clock.hold(shift, NONE);
        due.no("nobody holds it", clock.breaks(shift, rule));
    }

    /** A clock in which 0 holds a shift with so many hours of rest ahead of it. */
    private static boolean breaksRest(int rest, int n) {
        UnionClock clock = Clocks.ofAllSkills();
        Clocks.held(clock, 5, 5, 0);
        int shift = Clocks.held(clock, 10 + rest, 5, 0);
        return clock.breaks(shift, Clocks.read(clock, "REST " + n + " PAY 1"));
    }

    private static void breakingRest() {
        due.sentence("Rules", "REST: if there is a shift just ahead of it in the order of the worker, and its begin, "
                + "by stamps, less the end of that one, by stamps, is less than n.");
        for (int n = 1; n <= 200; n++) {
            due.yes("REST " + n + ", one hour less", breaksRest(n - 1, n));
            due.no("REST " + n + ", as many", breaksRest(n, n));
            due.yes("REST " + n + ", none", breaksRest(0, n));
        }
        due.no("REST 200, many", breaksRest(1985, 200));
    }

    private static void breakingRestInTheOrder() {
        UnionClock clock = Clocks.ofAllSkills();
        int second = Clocks.held(clock, 30, 5, 0);
        int rule = Clocks.read(clock, "REST 200 PAY 1");
        due.no("none ahead", clock.breaks(second, rule));
        int first = Clocks.held(clock, 10, 5, 0);
        due.yes("one ahead", clock.breaks(second, rule));
        due.no("none ahead of that", clock.breaks(first, rule));
        Clocks.passTo(clock, 60);
        clock.stamp(first, 30, 31);
        due.no("the lower number comes first at one begin", clock.breaks(second, rule));
        due.yes("the higher comes behind it, below 0", clock.breaks(first, rule));
        int least = Clocks.read(clock, "REST 1 PAY 1");
        due.yes("below 0 is less than 1", clock.breaks(first, least));
        clock.stamp(second, 20, 30);
        due.yes("0 is less than 1", clock.breaks(first, least));
        clock.stamp(second, 20, 29);
        due.no("1 is not less than 1", clock.breaks(first, least));
    }

    private static void breakingWeek() {
        due.sentence("Rules", "WEEK: if the hours of it and of all shifts ahead of it in the order of the worker "
                + "that begin, by stamps, in the same week, together, are more than n.");
        for (int n = 1; n <= 16; n++) {
            UnionClock clock = Clocks.ofAllSkills();
            int rule = Clocks.read(clock, "WEEK " + n + " PAY 1");
            due.no("WEEK " + n + ", as many", clock.breaks(Clocks.held(clock, 10, n, 0), rule));
            due.yes("WEEK " + n + ", one more", clock.breaks(Clocks.held(clock, 30, 1, 0), rule));
            due.no("WEEK " + n + ", the one ahead still", clock.breaks(0, rule));
        }
        UnionClock clock = Clocks.ofAllSkills();
        int rule = Clocks.read(clock, "WEEK 20 PAY 1");
        int last = Clocks.held(clock, 60, 4, 0);
        Clocks.held(clock, 10, 8, 0);
        Clocks.held(clock, 30, 8, 0);
        due.no("20 together", clock.breaks(last, rule));
        Clocks.passTo(clock, 70);
        clock.stamp(last, 60, 65);
        due.yes("21 together, by stamps", clock.breaks(last, rule));
        clock.stamp(last, 29, 34);
        due.no("13 ahead, by stamps", clock.breaks(last, rule));
        due.yes("21 by the one that comes last then", clock.breaks(2, rule));
        clock.stamp(last, 30, 35);
        due.no("at one begin the lower number comes first", clock.breaks(last, rule));
        clock.hold(1, NONE);
        due.no("13 are left", clock.breaks(2, rule));
    }

    private static void breakingWeekOf200() {
        UnionClock clock = Clocks.ofAllSkills();
        for (int shift = 0; shift < 9; shift++) {
            Clocks.held(clock, 100 + shift, 1, 0);
        }
        Clocks.passTo(clock, 140);
        for (int shift = 0; shift < 8; shift++) {
            clock.stamp(shift, shift, 24 + shift);
        }
        int rule = Clocks.read(clock, "WEEK 200 PAY 1");
        due.no("193", clock.breaks(8, rule));
        clock.stamp(8, 100, 108);
        due.no("200", clock.breaks(8, rule));
        clock.stamp(8, 100, 109);
        due.yes("201", clock.breaks(8, rule));
        clock.hold(0, NONE);
        due.no("177", clock.breaks(8, rule));
    }

    private static void breakingWeekAtItsEnds() {
        for (int week = 1; week <= 11; week++) {
            int begin = 168 * week;
            UnionClock clock = Clocks.ofAllSkills();
            int rule = Clocks.read(clock, "WEEK 8 PAY 1");
            int before = Clocks.held(clock, begin - 1, 1, 0);
            int first = Clocks.held(clock, begin, 8, 0);
            int later = Clocks.held(clock, Math.min(begin + 167, 2000), 1, 0);
            due.no("the last hour of the week before", clock.breaks(before, rule));
            due.no("the first hour of week " + week, clock.breaks(first, rule));
            due.yes("the last hour of week " + week, clock.breaks(later, rule));
            Clocks.passTo(clock, Math.min(begin + 20, 2000));
            clock.stamp(first, begin - 1, begin + 7);
            due.yes("the begin tells the week", clock.breaks(first, rule));
            due.no("the week has 1 hour left", clock.breaks(later, rule));
        }
    }

    private static void breakingRow() {
        due.sentence("Rules", "ROW: if on its day, and on the n days just ahead of that, one by one, "
                + "shifts of the worker begin, by stamps.");
        for (int n : new int[] {1, 2, 6, 7, 38, 39, 40, 199, 200}) {
            UnionClock clock = fortyDaysInARow();
            int rule = Clocks.read(clock, "ROW " + n + " PAY 1");
            for (int day = 0; day < 40; day++) {
                due.is("ROW " + n + ", day " + day, clock.breaks(day, rule) ? 1 : 0, day >= n ? 1 : 0);
            }
        }
        UnionClock clock = fortyDaysInARow();
        clock.hold(20, 1);
        int rule = Clocks.read(clock, "ROW 3 PAY 1");
        for (int day = 0; day < 40; day++) {
            due.is("ROW 3 without day 20, day " + day, clock.breaks(day, rule) ? 1 : 0,
                    day >= 3 && day < 20 || day >= 24 ? 1 : 0);
        }
    }

    private static UnionClock fortyDaysInARow() {
        UnionClock clock = Clocks.fullOfShifts();
        for (int shift = 1; shift < 40; shift += 2) {
            clock.hold(shift, 0);
        }
        return clock;
    }

    private static void breakingRowByManyShifts() {
        UnionClock clock = Clocks.ofAllSkills();
        int one = Clocks.read(clock, "ROW 1 PAY 1");
        int two = Clocks.read(clock, "ROW 2 PAY 1");
        for (int hour = 0; hour < 24; hour += 2) {
            Clocks.held(clock, hour, 2, 0);
        }
        due.no("many on one day are no row", clock.breaks(11, one));
        int early = Clocks.held(clock, 24, 2, 0);
        int late = Clocks.held(clock, 46, 2, 0);
        due.yes("the first on day 1", clock.breaks(early, one));
        due.yes("the last on day 1", clock.breaks(late, one));
        due.no("nor two days", clock.breaks(late, two));
        due.yes("day 2", clock.breaks(Clocks.held(clock, 71, 2, 0), two));
        due.no("the first day has no day ahead", clock.breaks(0, one));
    }

    private static void breakingRowByStamps() {
        UnionClock clock = Clocks.ofAllSkills();
        int first = Clocks.held(clock, 23, 4, 0);
        int second = Clocks.held(clock, 60, 4, 0);
        int rule = Clocks.read(clock, "ROW 1 PAY 1");
        Clocks.passTo(clock, 100);
        due.no("days 0 and 2", clock.breaks(second, rule));
        clock.stamp(first, 24, 25);
        due.yes("days 1 and 2, by stamps", clock.breaks(second, rule));
        clock.stamp(first, 23, 47);
        due.no("the end does not tell the day", clock.breaks(second, rule));
        clock.stamp(second, 47, 70);
        due.yes("days 0 and 1, by stamps", clock.breaks(second, rule));
        clock.stamp(second, 48, 70);
        due.no("days 0 and 2, by stamps", clock.breaks(second, rule));
        clock.stamp(first, 72, 73);
        due.no("days 3 and 2, by stamps", clock.breaks(second, rule));
        due.yes("the other way", clock.breaks(first, rule));
        clock.hold(second, 1);
        due.no("another's do not count", clock.breaks(first, rule));
    }

    private static void breakingLong() {
        due.sentence("Rules", "LONG: if its hours are more than n.");
        for (int n : new int[] {1, 2, 8, 15, 16, 17, 22, 23, 24, 25, 200}) {
            UnionClock clock = Clocks.ofAllSkills();
            int shift = Clocks.held(clock, 10, 16, 0);
            Clocks.passTo(clock, 60);
            int rule = Clocks.read(clock, "LONG " + n + " PAY 1");
            due.is("LONG " + n + ", 16 as planned", clock.breaks(shift, rule) ? 1 : 0, 16 > n ? 1 : 0);
            for (int hours = 1; hours <= 24; hours++) {
                clock.stamp(shift, 20, 20 + hours);
                due.is("LONG " + n + ", " + hours, clock.breaks(shift, rule) ? 1 : 0, hours > n ? 1 : 0);
            }
        }
    }

    // ---- Promise 10: put

    private static void put() {
        putAtTheEnd();
        putRefusesOtherCharacters();
        putRefusedAt40();
    }

    private static UnionClock withText(String text) {
        UnionClock clock = Clocks.ofAllSkills();
        Clocks.put(clock, text);
        return clock;
    }

    private static void putAtTheEnd() {
        due.sentence("Promise 10", "Puts a character at the end of the text.",
                "Returns how many characters the text has then.");
        UnionClock clock = new UnionClock();
        String text = "ROW 12 SKILL 3 PAY 200";
        for (int i = 0; i < text.length(); i++) {
            due.is("put " + text.charAt(i), clock.put(text.charAt(i)), i + 1);
        }
        due.is("it is a rule", clock.wrongAt(), NONE);
        due.is("one more", clock.put('0'), 23);
        due.is("the last number is wrong then", clock.wrongAt(), 19);
    }

    private static void putRefusesOtherCharacters() {
        due.sentence("Promise 10", "`letter`: A to Z, 0 to 9, or a space",
                "Throws `IllegalArgumentException` if it is none of these");
        for (char letter : new char[] {'A', 'B', 'Y', 'Z', '0', '1', '8', '9', ' '}) {
            due.is("put " + letter, withText("AAA").put(letter), 4);
        }
        char[] others = {'@', '[', '/', ':', 'a', 'z', '!', (char) 31, '\t', '\n', (char) 0, (char) 160,
            (char) (256 + 'A'), (char) (256 + ' '), (char) 65535};
        for (char letter : others) {
            refused.badArgument("put " + (int) letter, Clocks::busy, clock -> clock.put(letter));
            refused.badArgument("a full text comes second", () -> withText("A".repeat(LONGEST)),
                    clock -> clock.put(letter));
        }
    }

    private static void putRefusedAt40() {
        due.sentence("Promise 10", "Throws `IllegalStateException` if the text has 40");
        for (char letter : new char[] {'A', 'Z', '0', '9', ' '}) {
            due.is("put the 40th", withText("A".repeat(39)).put(letter), LONGEST);
            refused.badState("put the 41st", () -> withText("A".repeat(LONGEST)), clock -> clock.put(letter));
            refused.badState("put the 41st space", () -> withText(" ".repeat(LONGEST)), clock -> clock.put(letter));
        }
        String rule = "                            LONG 8 PAY 5";
        refused.badState("it would be another rule", () -> withText(rule), clock -> clock.put('0'));
        UnionClock clock = withText(rule);
        due.is("40 are read", clock.read(), 0);
        due.is("there is room again", clock.put('A'), 1);
    }

    // ---- Promise 11: empty

    private static void empty() {
        due.sentence("Promise 11", "Empties the text; returns how many characters it had.");
        for (int length = 0; length <= LONGEST; length++) {
            UnionClock clock = withText("A".repeat(length));
            due.is("it had " + length, clock.empty(), length);
            due.is("it has none", clock.empty(), 0);
            due.is("the first word is missing", clock.wrongAt(), 0);
            due.is("put behind that", clock.put('L'), 1);
        }
        UnionClock clock = withText(" ".repeat(7));
        due.is("spaces count", clock.empty(), 7);
        refused.changesNothing("emptied when empty", Clocks::fullOfShifts, c -> c.empty());
    }

    // ---- Promise 12: wrongAt

    private static void wrongAt() {
        wrongAtEachLength();
        wrongAtTheFirstWrongWord();
        wrongAtAMissingWord();
    }

    private static void wrongAtEachLength() {
        due.sentence("Promise 12", "Tells where the text is wrong.", "Returns NONE if it is a rule");
        String text = " REST 12  SKILL 3 PAY 145 ";
        int[] places = {0, 1, 1, 1, 1, 5, 6, 7, 8, 9, 10, 10, 10, 10, 10, 15, 16, 17, 18, 18, 18, 21, 22, -1, -1, -1,
                -1};
        UnionClock clock = new UnionClock();
        due.is("wrongAt() of nothing", clock.wrongAt(), places[0]);
        for (int length = 1; length <= text.length(); length++) {
            clock.put(text.charAt(length - 1));
            due.is("wrongAt() of '" + text.substring(0, length) + "'", clock.wrongAt(), places[length]);
        }
        refused.changesNothing("wrongAt() of a rule", () -> withText("ROW 8 PAY 5"), c -> c.wrongAt());
        refused.changesNothing("wrongAt() of no rule", Clocks::busy, c -> c.wrongAt());
        refused.changesNothing("wrongAt() of a rule, 12 were read", Clocks::fullOfRules, c -> c.wrongAt());
    }

    private static void wrongAtTheFirstWrongWord() {
        due.sentence("Promise 12",
                "otherwise the place of the first character of the first word that is not as it should be");
        String[] words = {"LONG", "8", "SKILL", "3", "PAY", "50"};
        String[] wrongWords = {"LONX", "201", "SKULL", "4", "PAYS", "201"};
        for (int first = 0; first < 1 << words.length; first++) {
            StringBuilder text = new StringBuilder();
            int place = NONE;
            for (int i = 0; i < words.length; i++) {
                boolean isWrong = (first >> i & 1) == 1;
                text.append(i % 2 == 0 ? " " : "  ");
                place = isWrong && place == NONE ? text.length() : place;
                text.append(isWrong ? wrongWords[i] : words[i]);
            }
            wrong(text.toString(), place);
        }
        wrong("A", 0);
        wrong("                                       A", 39);
    }

    private static void wrongAtAMissingWord() {
        due.sentence("Promise 12", "or the number of characters, if a word is missing.");
        for (int spaces = 0; spaces <= LONGEST; spaces++) {
            wrong(" ".repeat(spaces), spaces);
        }
        String[] begun = {"LONG", "LONG 8", "LONG 8 PAY", "LONG 8 SKILL", "LONG 8 SKILL 3", "LONG 8 SKILL 3 PAY"};
        for (String text : begun) {
            for (int length = text.length(); length <= LONGEST; length++) {
                wrong(text + " ".repeat(length - text.length()), length);
                wrong(" ".repeat(length - text.length()) + text, length);
            }
        }
    }

    // ---- Promise 13: read

    private static void read() {
        readReturnsTheNumber();
        readRefusesNoRule();
        readRefusedWhen12WereRead();
    }

    private static void readReturnsTheNumber() {
        due.sentence("Promise 13", "Reads the text as a rule; the text is empty then.",
                "Returns the number of the rule.");
        UnionClock clock = Clocks.ofAllSkills();
        Clocks.held(clock, 10, 9, 0);
        for (int number = 0; number < 12; number++) {
            due.is("read()", Clocks.read(clock, "LONG 8 PAY " + number), number);
            due.is("the text is empty", clock.wrongAt(), 0);
            due.is("the text is empty", clock.empty(), 0);
            due.is("all is judged", clock.claims(), number + 1);
            due.is("the number behind PAY", clock.worth(number), 90 * number / 100);
        }
    }

    private static void readRefusesNoRule() {
        due.sentence("Promise 13", "Throws `IllegalArgumentException` if it is no rule");
        String[] texts = {"", " ", "LONG", "LONG 8 PAY", "LONG 8 PAY 201", "LONG 0 PAY 1", "LONG 8 SKILL 4 PAY 1",
            "LONG 8 PAY 1 1", "A".repeat(LONGEST)};
        for (String text : texts) {
            refused.badArgument("read() of '" + text + "'", () -> withText(text), clock -> clock.read());
        }
        refused.badArgument("in the midst of all", Clocks::busy, clock -> clock.read());
        Refusals.Making noRuleBehind12 = () -> {
            UnionClock clock = Clocks.fullOfRules();
            clock.put('X');
            return clock;
        };
        refused.badArgument("12 come second", noRuleBehind12, clock -> clock.read());
    }

    private static void readRefusedWhen12WereRead() {
        due.sentence("Promise 13", "Throws `IllegalStateException` if 12 were read");
        refused.badState("12 were read", Clocks::fullOfRules, clock -> clock.read());
        Refusals.Making allDropped = () -> {
            UnionClock clock = Clocks.fullOfRules();
            for (int rule = 0; rule < 12; rule++) {
                clock.drop(rule);
            }
            return clock;
        };
        refused.badState("12 were read, all dropped", allDropped, clock -> clock.read());
        UnionClock clock = Clocks.ofAllSkills();
        for (int rule = 0; rule < 11; rule++) {
            Clocks.read(clock, "ROW 8 PAY 1");
        }
        due.is("11 were read", Clocks.read(clock, "LONG 1 PAY 9"), 11);
    }

    // ---- Promise 14: drop

    private static void drop() {
        dropCountsClaims();
        dropOutOfBounds();
        dropRefusedTwice();
    }

    private static void dropCountsClaims() {
        due.sentence("Promise 14", "Drops a rule.", "Returns how many claims become VOID or OWED by that.");
        UnionClock clock = Clocks.ofAllSkills();
        due.is("a rule without claims", dropOf(clock, "LONG 16 PAY 1"), 0);
        for (int shift = 0; shift < 5; shift++) {
            Clocks.held(clock, 20 * shift + 10, 9, shift);
        }
        due.is("five OPEN", dropOf(clock, "LONG 8 PAY 50"), 5);
        int rule = Clocks.read(clock, "LONG 8 PAY 50");
        Clocks.read(clock, "LONG 8 PAY 50");
        clock.pay(5);
        clock.pay(6);
        clock.hold(0, NONE);
        clock.hold(2, NONE);
        due.is("one PAID and two OPEN, of five", clock.drop(rule), 3);
        int[] states = {3, 3, 2, 2, 2};
        for (int claim = 5; claim < 10; claim++) {
            due.is("state(" + claim + ")", clock.state(claim), states[claim - 5]);
        }
        int[] others = {2, 0, 2, 0, 0};
        for (int claim = 10; claim < 15; claim++) {
            due.is("state(" + claim + ") of the other rule", clock.state(claim), others[claim - 10]);
        }
    }

    private static int dropOf(UnionClock clock, String text) {
        return clock.drop(Clocks.read(clock, text));
    }

    private static void dropOutOfBounds() {
        due.sentence("Promise 14", "`rule`: the rule", "Throws `IndexOutOfBoundsException` if there is no such rule");
        due.is("drop(2)", Clocks.busy().drop(2), 1);
        refused.outOfBoundsOutside(0, 3, "drop", Clocks::busy, UnionClock::drop);
        due.is("drop(11)", Clocks.fullOfRules().drop(11), 1);
        refused.outOfBoundsOutside(0, 11, "of 12, drop", Clocks::fullOfRules, UnionClock::drop);
        refused.outOfBoundsOutside(0, -1, "of none, drop", Clocks::fullOfShifts, UnionClock::drop);
    }

    private static void dropRefusedTwice() {
        due.sentence("Promise 14", "Throws `IllegalStateException` if it was dropped");
        refused.badState("dropped", Clocks::busy, clock -> clock.drop(3));
        Refusals.Making making = () -> {
            UnionClock clock = Clocks.busy();
            clock.drop(0);
            return clock;
        };
        refused.badState("dropped", making, clock -> clock.drop(0));
        due.is("another one is not", making.clock().drop(1), 1);
    }

    // ---- Promise 15: breaks

    private static void breaks() {
        due.sentence("Promise 15", "Tells whether a shift breaks a rule.",
                "Returns whether it does; false if nobody holds the shift, or the rule was dropped.");
        boolean[][] broken = {{true, true, false, false, false, false, true, true, false},
            {false, true, false, false, false, false, false, false, false},
            {false, true, false, false, false, false, false, false, false},
            {false, false, false, false, false, false, false, false, false}};
        UnionClock clock = Clocks.busy();
        for (int rule = 0; rule < broken.length; rule++) {
            for (int shift = 0; shift < broken[rule].length; shift++) {
                due.is("breaks(" + shift + ", " + rule + ")", clock.breaks(shift, rule) ? 1 : 0,
                        broken[rule][shift] ? 1 : 0);
            }
        }
        refused.changesNothing("breaks", Clocks::busy, c -> c.breaks(1, 0));
        clock.hold(7, NONE);
        due.no("nobody holds it", clock.breaks(7, 0));
        clock.drop(0);
        due.no("the rule was dropped", clock.breaks(6, 0));
        due.no("both", clock.breaks(7, 0));
        breaksOutOfBounds();
    }

    private static void breaksOutOfBounds() {
        due.sentence("Promise 15", "`shift`: the shift", "`rule`: the rule",
                "Throws `IndexOutOfBoundsException` if there is no such shift or rule");
        refused.outOfBoundsOutside(0, 8, "shift", Clocks::busy, (clock, shift) -> clock.breaks(shift, 0));
        refused.outOfBoundsOutside(0, 3, "rule", Clocks::busy, (clock, rule) -> clock.breaks(1, rule));
        refused.outOfBoundsOutside(0, 3, "rule, of a free shift", Clocks::busy, (clock, rule) -> clock.breaks(8, rule));
        refused.outOfBoundsOutside(0, 8, "shift, by a dropped rule", Clocks::busy,
                (clock, shift) -> clock.breaks(shift, 3));
        refused.outOfBounds("neither", Clocks::busy, clock -> clock.breaks(9, 4));
        refused.outOfBounds("neither of none", UnionClock::new, clock -> clock.breaks(0, 0));
        refused.outOfBounds("the rule of 12", Clocks::fullOfRules, clock -> clock.breaks(0, 12));
        refused.outOfBounds("the shift of 40", Clocks::fullOfShifts, clock -> clock.breaks(40, 0));
    }

    // ---- Promise 16: breaches

    private static void breaches() {
        breachesArePairs();
        breachesByStamps();
        breachesOutOfBounds();
        breachesOfOtherWeeks();
    }

    private static void breachesArePairs() {
        due.sentence("Promise 16", "Returns how many pairs of a shift that begins in a week, by stamps, "
                + "and a rule that it breaks there are for a worker, by judging the week shift by shift.",
                        "Returns the pairs.");
        UnionClock clock = Clocks.ofAllSkills();
        for (int shift = 0; shift < 40; shift++) {
            Clocks.held(clock, 4 * shift, 2, 0);
        }
        for (int rule = 0; rule < 12; rule++) {
            due.is(rule + " rules", clock.breaches(0, 0), 40 * rule);
            due.is("no shift of week 1", clock.breaches(0, 1), 0);
            due.is("no shift of worker 1", clock.breaches(1, 0), 0);
            Clocks.read(clock, "LONG 1 PAY 1");
        }
        due.is("the most", clock.breaches(0, 0), 480);
        due.is("claims are fewer", clock.claims(), 200);
        clock.drop(4);
        due.is("a dropped rule", clock.breaches(0, 0), 440);
        clock.hold(7, 1);
        due.is("another's", clock.breaches(0, 0), 429);
        due.is("another's", clock.breaches(1, 0), 11);
        refused.changesNothing("breaches", Clocks::busy, c -> c.breaches(0, 0));
    }

    private static void breachesByStamps() {
        UnionClock clock = Clocks.ofAllSkills();
        int last = Clocks.held(clock, 167, 9, 0);
        Clocks.held(clock, 180, 9, 0);
        Clocks.read(clock, "LONG 8 PAY 1");
        Clocks.read(clock, "REST 5 PAY 1");
        Clocks.read(clock, "WEEK 17 PAY 1");
        due.is("week 0", clock.breaches(0, 0), 1);
        due.is("week 1: long, and a rest of 4", clock.breaches(0, 1), 2);
        Clocks.passTo(clock, 200);
        clock.stamp(last, 168, 177);
        due.is("week 0, by stamps", clock.breaches(0, 0), 0);
        due.is("week 1, by stamps: long twice, a rest of 3, 18 hours", clock.breaches(0, 1), 4);
        clock.stamp(last, 167, 168);
        due.is("week 0, by stamps", clock.breaches(0, 0), 0);
        due.is("week 1, by stamps: long", clock.breaches(0, 1), 1);
    }

    private static void breachesOutOfBounds() {
        due.sentence("Promise 16", "`worker`: the worker",
                "Throws `IndexOutOfBoundsException` if there is no such worker");
        due.is("worker 0", Clocks.busy().breaches(0, 0), 4);
        due.is("worker 7", Clocks.busy().breaches(7, 0), 0);
        refused.outOfBoundsOutside(0, 7, "worker", Clocks::busy, (clock, worker) -> clock.breaches(worker, 0));
        refused.outOfBoundsOutside(0, 7, "a bad week comes second", Clocks::busy,
                (clock, worker) -> clock.breaches(worker, 12));
        refused.outOfBoundsOutside(0, 7, "a bad week comes second", Clocks::busy,
                (clock, worker) -> clock.breaches(worker, -1));
    }

    private static void breachesOfOtherWeeks() {
        due.sentence("Promise 16", "`week`: 0 to 11", "Throws `IllegalArgumentException` if week is out of its range");
        UnionClock clock = Clocks.ofAllSkills();
        Clocks.held(clock, 0, 9, 3);
        Clocks.held(clock, 2000, 9, 3);
        Clocks.read(clock, "LONG 8 PAY 1");
        for (int week = 0; week <= 11; week++) {
            due.is("week " + week, clock.breaches(3, week), week == 0 || week == 11 ? 1 : 0);
        }
        refused.badArgumentOutside(0, 11, "week", Clocks::busy, (c, week) -> c.breaches(0, week));
        refused.badArgumentOutside(0, 11, "week of one without shifts", Clocks::busy, (c, week) -> c.breaches(6, week));
    }
}
