/** Promises 10 to 16: the text, rules, and what breaks them. */
public final class RulesTest {
    private static final Due due = new Due();

    public static void main(String[] args) {
        put();
        empty();
        wrongAt();
        read();
        drop();
        breaksRest();
        breaksWeek();
        breaksRow();
        breaksRowByStamps();
        breaksLong();
        breaksWithSkill();
        breaksRefused();
        breaches();
        due.end();
    }

    private static void put() {
        due.promise("Promise 10: put");
        UnionClock clock = new UnionClock();
        int length = 0;
        for (char letter : "AZ09 M5".toCharArray()) {
            length++;
            due.is("put " + letter, clock.put(letter), length);
        }
        char[] wrong = {'a', 'z', '@', '[', '/', ':', '\t', '\n', (char) 0, (char) 160, (char) 233,
            (char) 256 + 'A', (char) 65535};
        for (char letter : wrong) {
            due.badArgument("put " + (int) letter, () -> clock.put(letter));
        }
        while (length < 40) {
            length++;
            due.is("put a space", clock.put(' '), length);
        }
        due.badState("put the 41st", () -> clock.put('A'));
        due.badArgument("the argument is looked at first", () -> clock.put('a'));
        due.is("empty()", clock.empty(), 40);
        due.is("put behind that", clock.put('A'), 1);
    }

    private static void empty() {
        due.promise("Promise 11: empty");
        UnionClock clock = new UnionClock();
        due.is("empty()", clock.empty(), 0);
        Clocks.put(clock, "LONG 8 PAY 1");
        due.is("empty()", clock.empty(), 12);
        due.is("empty() again", clock.empty(), 0);
        due.is("wrongAt()", clock.wrongAt(), 0);
        due.badArgument("read()", () -> clock.read());
    }

    private static void wrongAt() {
        due.promise("Promise 12: wrongAt");
        String[] rules = {
            "REST 1 PAY 0", "WEEK 200 PAY 200", "ROW 5 PAY 50", "LONG 16 PAY 7", "REST 001 PAY 000",
            "  ROW   09   SKILL  3   PAY  020  ", "LONG 8 SKILL 0 PAY 1", "WEEK 40 SKILL 1 PAY 10",
            "LONG 99 SKILL 2 PAY 99", "                            REST 8 PAY 5",
        };
        for (String rule : rules) {
            wrongAt(rule, -1);
        }
        wrongAt("", 0);
        wrongAt("   ", 3);
        wrongAt("REST", 4);
        wrongAt("REST ", 5);
        wrongAt("REST  8", 7);
        wrongAt("REST 8 ", 7);
        wrongAt("REST 8 PAY", 10);
        wrongAt("REST 8 PAY  ", 12);
        wrongAt("REST 8 SKILL", 12);
        wrongAt("REST 8 SKILL 1", 14);
        wrongAt("REST 8 SKILL 1 ", 15);
        wrongAt("REST 8 SKILL 1 PAY", 18);
        wrongAt("RES 8 PAY 1", 0);
        wrongAt("XEST 8 PAY 1", 0);
        wrongAt("RESX 8 PAY 1", 0);
        wrongAt("REST 8 SKALL 1 PAY 1", 7);
        wrongAt("REST 8 XAY 1", 7);
        wrongAt(" RESTS 8 PAY 1", 1);
        wrongAt("  PAY 8 PAY 1", 2);
        wrongAt("8 REST PAY 1", 0);
        wrongAt("REST8 PAY 1", 0);
        wrongAt("REST 0 PAY 1", 5);
        wrongAt("REST 000 PAY 1", 5);
        wrongAt("REST 201 PAY 1", 5);
        wrongAt("REST 999 PAY 1", 5);
        wrongAt("REST 0008 PAY 1", 5);
        wrongAt("REST 8A PAY 1", 5);
        wrongAt("REST A8 PAY 1", 5);
        wrongAt("REST  PAY 1", 6);
        wrongAt("REST 8 1", 7);
        wrongAt("REST 8 PAYS 1", 7);
        wrongAt("REST 8 SKILLS 1 PAY 1", 7);
        wrongAt("REST 8 SKILL 4 PAY 1", 13);
        wrongAt("REST 8 SKILL 00 PAY 1", 13);
        wrongAt("REST 8 SKILL A PAY 1", 13);
        wrongAt("REST 8 SKILL PAY 1", 13);
        wrongAt("REST 8 SKILL 1 SKILL 1 PAY 1", 15);
        wrongAt("REST 8 SKILL 1 1", 15);
        wrongAt("REST 8 PAY 201", 11);
        wrongAt("REST 8 PAY 0001", 11);
        wrongAt("REST 8 PAY 1X", 11);
        wrongAt("REST 8 PAY X", 11);
        wrongAt("REST 8 PAY 1 1", 13);
        wrongAt("REST 8 PAY 1  SKILL 1", 14);
        wrongAt("REST 8 PAY 1 REST 8 PAY 1", 13);
        wrongAt("X 0 X X", 0);
        wrongAt("REST 0 X X", 5);
        wrongAt("LONG 4444444444444444444444444444 PAY 1", 5);
        wrongAt("AAAAAAAAAAAAAAAAAAAAAAAAAAAAAAAAAAAAAAAA", 0);
        wrongAt("REST 8 PAY 1 AAAAAAAAAAAAAAAAAAAAAAAAAAA", 13);
        wrongAt("                                        ", 40);
    }

    private static void wrongAt(String text, int place) {
        UnionClock clock = new UnionClock();
        Clocks.put(clock, text);
        due.is("wrongAt() of '" + text + "'", clock.wrongAt(), place);
        due.is("wrongAt() again of '" + text + "'", clock.wrongAt(), place);
        if (place == -1) {
            due.is("read() of '" + text + "'", clock.read(), 0);
            due.is("empty() behind read()", clock.empty(), 0);
        } else {
            due.badArgument("read() of '" + text + "'", () -> clock.read());
            due.is("wrongAt() behind read()", clock.wrongAt(), place);
            due.is("empty() behind read()", clock.empty(), text.length());
            due.outOfBounds("no rule was read", () -> clock.drop(0));
        }
    }

    private static void read() {
        due.promise("Promise 13: read");
        UnionClock clock = Clocks.ofAllSkills();
        Clocks.held(clock, 0, 8, 0);
        Clocks.held(clock, 0, 9, 1);
        due.is("the first rule", Clocks.read(clock, "LONG 8 PAY 50"), 0);
        due.is("the text is empty", clock.empty(), 0);
        due.is("all is judged", clock.claims(), 1);
        due.is("of worker 1, shift 1, rule 0", clock.about(0), 10100);
        due.is("the second rule", Clocks.read(clock, "LONG 7 PAY 50"), 1);
        due.is("all is judged", clock.claims(), 3);
        due.is("by rising shifts", clock.about(1), 1);
        due.is("by rising shifts", clock.about(2), 10101);
        clock.drop(0);
        for (int rule = 2; rule < 12; rule++) {
            due.is("the next, dropped ones count", Clocks.read(clock, "ROW 9 PAY 1"), rule);
        }
        due.badArgument("no rule comes first", () -> clock.read());
        Clocks.put(clock, "LONG 1 PAY 50");
        due.badState("12 were read", () -> clock.read());
        due.is("nothing is judged", clock.claims(), 3);
        due.is("the text stays", clock.wrongAt(), -1);
        due.is("the text stays", clock.empty(), 13);
        due.outOfBounds("no rule 12", () -> clock.drop(12));
    }

    private static void drop() {
        due.promise("Promise 14: drop");
        UnionClock clock = Clocks.ofAllSkills();
        due.outOfBounds("no rule 0", () -> clock.drop(0));
        for (int worker = 0; worker < 4; worker++) {
            Clocks.held(clock, 0, 8, worker);
        }
        Clocks.read(clock, "LONG 5 PAY 50");
        Clocks.read(clock, "LONG 6 PAY 50");
        due.is("claims()", clock.claims(), 8);
        clock.pay(0);
        clock.pay(1);
        clock.hold(1, -1);
        clock.hold(2, -1);
        due.is("the claim of 1 is OWED", clock.state(1), 3);
        due.is("the claim of 2 is VOID", clock.state(2), 2);
        due.outOfBounds("no rule 2", () -> clock.drop(2));
        due.outOfBounds("no rule -1", () -> clock.drop(-1));
        due.is("one PAID and one OPEN", clock.drop(0), 2);
        int[] states = {3, 3, 2, 2, 0, 2, 2, 0};
        for (int claim = 0; claim < states.length; claim++) {
            due.is("state(" + claim + ")", clock.state(claim), states[claim]);
        }
        due.badState("dropped", () -> clock.drop(0));
        due.no("breaks a dropped rule", clock.breaks(0, 0));
        clock.hold(1, 1);
        due.is("a dropped rule makes no claim PAID", clock.state(1), 3);
        due.is("the other rule does", clock.state(5), 0);
        due.is("nothing to lapse", Clocks.read(clock, "LONG 16 PAY 1") == 2 ? clock.drop(2) : -9, 0);
    }

    private static void breaksRest() {
        due.promise("Promise 15: breaks, REST");
        UnionClock clock = Clocks.ofAllSkills();
        int first = Clocks.held(clock, 10, 6, 0);
        int second = Clocks.held(clock, 24, 6, 0);
        int third = Clocks.held(clock, 37, 6, 0);
        Clocks.held(clock, 20, 2, 1);
        int rule = Clocks.read(clock, "REST 8 PAY 1");
        due.no("nothing ahead", clock.breaks(first, rule));
        due.no("8 hours", clock.breaks(second, rule));
        due.yes("7 hours", clock.breaks(third, rule));
        clock.hold(second, -1);
        due.no("21 hours", clock.breaks(third, rule));
        due.no("not held", clock.breaks(second, rule));
        clock.hold(second, 0);
        Clocks.passTo(clock, 50);
        clock.stamp(first, 10, 17);
        due.yes("7 hours by stamps", clock.breaks(second, rule));
        clock.stamp(second, 20, 29);
        due.no("8 hours by stamps", clock.breaks(third, rule));
        clock.stamp(third, 9, 11);
        due.no("nothing ahead by stamps", clock.breaks(third, rule));
        due.yes("below 0", clock.breaks(first, rule));
        int most = Clocks.read(clock, "REST 200 PAY 1");
        due.no("nothing ahead, the highest number", clock.breaks(third, most));
        int far = Clocks.held(clock, 228, 1, 0);
        due.yes("199 hours", clock.breaks(far, most));
        int farther = Clocks.held(clock, 429, 1, 0);
        due.no("200 hours", clock.breaks(farther, most));
    }

    private static void breaksWeek() {
        due.promise("Promise 15: breaks, WEEK");
        UnionClock clock = Clocks.ofAllSkills();
        int rule = Clocks.read(clock, "WEEK 20 PAY 1");
        int first = Clocks.held(clock, 0, 8, 0);
        int third = Clocks.held(clock, 160, 16, 0);
        int second = Clocks.held(clock, 50, 12, 0);
        int nextWeek = Clocks.held(clock, 176, 16, 0);
        int nextWeekToo = Clocks.held(clock, 200, 5, 0);
        due.no("8 hours", clock.breaks(first, rule));
        due.no("20 hours", clock.breaks(second, rule));
        due.yes("36 hours", clock.breaks(third, rule));
        due.no("16 hours of the next week", clock.breaks(nextWeek, rule));
        due.yes("21 hours of the next week", clock.breaks(nextWeekToo, rule));
        clock.pass(100);
        clock.stamp(first, 0, 9);
        due.yes("21 hours by stamps", clock.breaks(second, rule));
        clock.pass(110);
        clock.stamp(third, 168, 170);
        due.no("2 hours of the next week by stamps", clock.breaks(third, rule));
        due.no("18 hours of the next week by stamps", clock.breaks(nextWeek, rule));
        clock.stamp(third, 167, 170);
        due.yes("24 hours of this week by stamps", clock.breaks(third, rule));
        due.no("16 hours of the next week by stamps", clock.breaks(nextWeek, rule));
        int other = Clocks.held(clock, 60, 16, 1);
        due.no("another worker", clock.breaks(other, rule));
        clock.hold(second, -1);
        due.no("not held", clock.breaks(second, rule));
        due.no("12 hours", clock.breaks(third, rule));
        int least = Clocks.read(clock, "WEEK 8 PAY 1");
        due.yes("9 hours, nothing ahead", clock.breaks(first, least));
    }

    private static void breaksRow() {
        due.promise("Promise 15: breaks, ROW");
        UnionClock clock = Clocks.ofAllSkills();
        int one = Clocks.read(clock, "ROW 1 PAY 1");
        int three = Clocks.read(clock, "ROW 3 PAY 1");
        int day0 = Clocks.held(clock, 23, 1, 0);
        int day1 = Clocks.held(clock, 24, 1, 0);
        int day1Late = Clocks.held(clock, 47, 1, 0);
        int day2 = Clocks.held(clock, 60, 1, 0);
        int day3 = Clocks.held(clock, 72, 1, 0);
        int day5 = Clocks.held(clock, 120, 1, 0);
        int day6 = Clocks.held(clock, 167, 16, 0);
        int day7 = Clocks.held(clock, 190, 1, 0);
        due.no("day 0, 1", clock.breaks(day0, one));
        due.no("day 0, 3", clock.breaks(day0, three));
        due.yes("day 1, 1", clock.breaks(day1, one));
        due.yes("day 1 late, 1", clock.breaks(day1Late, one));
        due.yes("day 2, 1", clock.breaks(day2, one));
        due.no("day 2, 3", clock.breaks(day2, three));
        due.yes("day 3, 3", clock.breaks(day3, three));
        due.no("day 5, 1", clock.breaks(day5, one));
        due.yes("day 6, 1", clock.breaks(day6, one));
        due.yes("day 7, the week does not count", clock.breaks(day7, one));
        due.no("day 7, 3", clock.breaks(day7, three));
        clock.hold(day2, 1);
        due.no("another worker", clock.breaks(day2, one));
        due.no("day 3 without day 2", clock.breaks(day3, one));
        clock.hold(day1, -1);
        due.no("not held", clock.breaks(day1, one));
        due.yes("day 1 late, 1", clock.breaks(day1Late, one));
    }

    private static void breaksRowByStamps() {
        due.promise("Promise 15: breaks, ROW by stamps");
        UnionClock clock = Clocks.ofAllSkills();
        int rule = Clocks.read(clock, "ROW 2 PAY 1");
        int day0 = Clocks.held(clock, 10, 1, 0);
        int day1 = Clocks.held(clock, 30, 1, 0);
        int day3 = Clocks.held(clock, 74, 1, 0);
        Clocks.passTo(clock, 100);
        due.no("day 3 as planned", clock.breaks(day3, rule));
        clock.stamp(day3, 71, 75);
        due.yes("day 2 by stamps", clock.breaks(day3, rule));
        clock.stamp(day1, 22, 30);
        due.no("two on day 0 by stamps", clock.breaks(day3, rule));
        clock.stamp(day3, 3, 4);
        clock.stamp(day0, 60, 61);
        clock.stamp(day1, 24, 25);
        due.yes("day 0 comes last by stamps", clock.breaks(day0, rule));
        due.no("day 0 by stamps", clock.breaks(day3, rule));
        clock.stamp(day0, 71, 73);
        due.yes("the begin tells the day", clock.breaks(day0, rule));
        clock.stamp(day0, 72, 73);
        due.no("the begin tells the day", clock.breaks(day0, rule));
    }

    private static void breaksLong() {
        due.promise("Promise 15: breaks, LONG");
        UnionClock clock = Clocks.ofAllSkills();
        int eight = Clocks.held(clock, 0, 8, 0);
        int nine = Clocks.held(clock, 10, 9, 0);
        int rule = Clocks.read(clock, "LONG 8 PAY 1");
        due.no("8 hours", clock.breaks(eight, rule));
        due.yes("9 hours", clock.breaks(nine, rule));
        Clocks.passTo(clock, 40);
        clock.stamp(eight, 0, 9);
        clock.stamp(nine, 10, 18);
        due.yes("9 hours by stamps", clock.breaks(eight, rule));
        due.no("8 hours by stamps", clock.breaks(nine, rule));
        clock.hold(eight, -1);
        due.no("not held", clock.breaks(eight, rule));
        clock.hold(eight, 5);
        due.yes("held again", clock.breaks(eight, rule));
        clock.drop(rule);
        due.no("dropped", clock.breaks(eight, rule));
    }

    private static void breaksWithSkill() {
        due.promise("Promise 15: breaks, SKILL");
        UnionClock clock = Clocks.ofAllSkills();
        int first = clock.shift(0, 9, 1);
        int second = clock.shift(24, 9, 2);
        int third = clock.shift(48, 9, 0);
        int fourth = clock.shift(72, 9, 2);
        for (int shift = first; shift <= fourth; shift++) {
            clock.hold(shift, 0);
        }
        int longer = Clocks.read(clock, "LONG 8 SKILL 2 PAY 1");
        int rest = Clocks.read(clock, "REST 16 SKILL 2 PAY 1");
        int week = Clocks.read(clock, "WEEK 17 SKILL 2 PAY 1");
        int row = Clocks.read(clock, "ROW 3 SKILL 2 PAY 1");
        int skill0 = Clocks.read(clock, "LONG 8 SKILL 0 PAY 1");
        int[] rules = {longer, rest, week, row};
        for (int rule : rules) {
            due.no("skill 1", clock.breaks(first, rule));
            due.no("skill 0", clock.breaks(third, rule));
            due.yes("skill 2, whatever is ahead", clock.breaks(fourth, rule));
        }
        due.yes("skill 2", clock.breaks(second, longer));
        due.yes("skill 2, one shift ahead", clock.breaks(second, rest));
        due.yes("skill 2, 18 hours", clock.breaks(second, week));
        due.no("skill 2, one day ahead", clock.breaks(second, row));
        due.yes("skill 0", clock.breaks(third, skill0));
        due.no("skill 0", clock.breaks(second, skill0));
        int any = Clocks.read(clock, "LONG 8 PAY 1");
        for (int shift = first; shift <= fourth; shift++) {
            due.yes("any skill", clock.breaks(shift, any));
        }
        due.is("the skill of the worker does not count", clock.worker(0, 0, 5), 10);
        due.yes("the skill of the worker does not count", clock.breaks(fourth, longer));
    }

    private static void breaksRefused() {
        due.promise("Promise 15: breaks, refused");
        UnionClock clock = Clocks.ofAllSkills();
        due.outOfBounds("neither", () -> clock.breaks(0, 0));
        int shift = clock.shift(0, 9, 0);
        due.outOfBounds("no rule", () -> clock.breaks(shift, 0));
        int rule = Clocks.read(clock, "LONG 8 PAY 1");
        due.no("not held", clock.breaks(shift, rule));
        due.outOfBounds("shift 1", () -> clock.breaks(1, rule));
        due.outOfBounds("shift -1", () -> clock.breaks(-1, rule));
        due.outOfBounds("rule 1", () -> clock.breaks(shift, 1));
        due.outOfBounds("rule -1", () -> clock.breaks(shift, -1));
        due.outOfBounds("rule 12", () -> clock.breaks(shift, 12));
    }

    private static void breaches() {
        due.promise("Promise 16: breaches");
        UnionClock clock = Clocks.ofAllSkills();
        Clocks.held(clock, 0, 9, 0);
        Clocks.held(clock, 10, 9, 0);
        int late = Clocks.held(clock, 167, 5, 0);
        Clocks.held(clock, 1990, 9, 0);
        Clocks.held(clock, 10, 16, 1);
        due.is("no rules", clock.breaches(0, 0), 0);
        int longer = Clocks.read(clock, "LONG 8 PAY 1");
        due.is("two are long", clock.breaches(0, 0), 2);
        Clocks.read(clock, "REST 8 PAY 1");
        due.is("one rests too little", clock.breaches(0, 0), 3);
        Clocks.read(clock, "WEEK 18 PAY 1");
        due.is("one is too much for the week", clock.breaches(0, 0), 4);
        due.is("week 1", clock.breaches(0, 1), 0);
        due.is("week 11", clock.breaches(0, 11), 1);
        due.is("another worker", clock.breaches(1, 0), 1);
        due.is("a worker without shifts", clock.breaches(7, 0), 0);
        Clocks.passTo(clock, 200);
        clock.stamp(late, 168, 177);
        due.is("week 0, by stamps", clock.breaches(0, 0), 3);
        due.is("week 1, by stamps", clock.breaches(0, 1), 1);
        clock.drop(longer);
        due.is("a dropped rule", clock.breaches(0, 0), 1);
        due.is("a dropped rule", clock.breaches(0, 11), 0);
        due.outOfBounds("worker 8", () -> clock.breaches(8, 0));
        due.outOfBounds("worker -1", () -> clock.breaches(-1, 12));
        due.badArgument("week 12", () -> clock.breaches(0, 12));
        due.badArgument("week -1", () -> clock.breaches(0, -1));
    }
}
