/** The bounds that the document names in 'Terms', 'Workers and shifts' and promises 1 to 9, sentence by sentence. */
public final class TimeAndShiftsBoundsTest {
    private static final int NONE = -1;
    private static final int LOWEST = Integer.MIN_VALUE;
    private static final int HIGHEST = Integer.MAX_VALUE;

    private static final Due due = new Due();
    private static final Refusals refused = new Refusals(due);

    public static void main(String[] args) {
        terms();
        workersAndShifts();
        newObject();
        pass();
        worker();
        shift();
        hold();
        stamp();
        holder();
        shiftOf();
        rest();
        due.allQuoted("Terms", "Workers and shifts", "Promise 1", "Promise 2", "Promise 3", "Promise 4", "Promise 5",
                "Promise 6", "Promise 7", "Promise 8", "Promise 9");
        due.end();
    }

    /** A new clock at an hour. */
    private static UnionClock at(int hour) {
        UnionClock clock = Clocks.ofAllSkills();
        Clocks.passTo(clock, hour);
        return clock;
    }

    // ---- Terms

    private static void terms() {
        hoursGoTo2000();
        nowIs0AtFirst();
        dayOfAnHour();
        weekOfAnHour();
    }

    private static void hoursGoTo2000() {
        due.sentence("Terms", "Hours are numbered from 0 to 2000");
        UnionClock clock = Clocks.ofAllSkills();
        int first = Clocks.held(clock, 0, 16, 0);
        int last = Clocks.held(clock, 2000, 16, 0);
        due.is("pass(1)", clock.pass(1), 1);
        due.is("stamp from hour 0", clock.stamp(first, 0, 1), -15);
        Clocks.passTo(clock, 2000);
        due.is("stamp to hour 2000", clock.stamp(last, 1999, 2000), -15);
        due.badArgument("stamp to hour 2001", () -> clock.stamp(last, 2000, 2001));
        due.badState("pass to hour 2001", () -> clock.pass(1));
    }

    private static void nowIs0AtFirst() {
        due.sentence("Terms", "now is the hour 0 at first");
        UnionClock clock = Clocks.ofAllSkills();
        int now = Clocks.held(clock, 0, 1, 0);
        int one = Clocks.held(clock, 1, 1, 1);
        int another = Clocks.held(clock, 1, 1, 2);
        due.badState("a shift at 0 does not begin behind now", () -> clock.offer(now, one));
        due.is("shifts at 1 begin behind now", clock.offer(one, another), 0);
        due.badArgument("an hour behind now", () -> clock.stamp(now, 0, 1));
        due.is("one hour later", clock.pass(1), 1);
        due.is("the hour up to now", clock.stamp(now, 0, 1), 0);
        due.badState("shifts at 1 begin now", () -> clock.offer(one, another));
    }

    private static void dayOfAnHour() {
        due.sentence("Terms", "The day of an hour is the hour divided by 24");
        for (int day = 1; day <= 83; day++) {
            int begin = 24 * day;
            due.yes("the last hour ahead of day " + day, breaksRowOf1(begin - 1, begin));
            due.yes("the first hour of the day ahead of " + day, breaksRowOf1(begin - 24, begin));
            due.no("the last hour of the day ahead of that", day > 1 && breaksRowOf1(begin - 25, begin));
            due.no("the same day", breaksRowOf1(begin, Math.min(begin + 23, 2000)));
            due.yes("the last hour of day " + day, breaksRowOf1(begin - 1, Math.min(begin + 23, 2000)));
        }
    }

    private static boolean breaksRowOf1(int firstBegin, int secondBegin) {
        UnionClock clock = Clocks.ofAllSkills();
        Clocks.held(clock, firstBegin, 1, 0);
        int second = Clocks.held(clock, secondBegin, 1, 0);
        return clock.breaks(second, Clocks.read(clock, "ROW 1 PAY 1"));
    }

    private static void weekOfAnHour() {
        due.sentence("Terms", "its week the hour divided by 168, both rounded down");
        for (int week = 0; week <= 11; week++) {
            int begin = 168 * week;
            inWeek(begin, week);
            inWeek(begin + 1, week);
            inWeek(Math.min(begin + 167, 2000), week);
        }
        inWeek(2000, 11);
    }

    private static void inWeek(int begin, int week) {
        UnionClock clock = Clocks.ofAllSkills();
        Clocks.held(clock, begin, 2, 0);
        Clocks.read(clock, "LONG 1 PAY 1");
        for (int asked = 0; asked <= 11; asked++) {
            due.is("hour " + begin + " in week " + asked, clock.breaches(0, asked), asked == week ? 1 : 0);
        }
    }

    // ---- Workers and shifts

    private static void workersAndShifts() {
        workersAre0To7();
        skillsAreSetsOf0To3();
        noSkillsAtFirst();
        wageIs10AtFirst();
        atMost40Shifts();
        shiftEnds1To16HoursBehindItsBegin();
        oneSkillAndNobodyAtFirst();
        otherBeginAndEndByStamps();
        hoursByStamps();
        workerCanHold();
        otherShiftsDoNotOverlap();
        orderByBeginsThenNumbers();
    }

    private static void workersAre0To7() {
        due.sentence("Workers and shifts", "There are the workers 0 to 7");
        UnionClock clock = new UnionClock();
        for (int worker = 0; worker <= 7; worker++) {
            due.is("worker " + worker, clock.worker(worker, 1, 5), 10);
            due.is("hold by " + worker, Clocks.held(clock, 20 * worker, 4, worker), worker);
            due.is("shiftOf " + worker, clock.shiftOf(worker, 0), worker);
            due.is("breaches of " + worker, clock.breaches(worker, 0), 0);
            due.is("wages of " + worker, clock.wages(worker), 0);
        }
        refused.outOfBoundsOutside(0, 7, "worker", Clocks::busy, (c, worker) -> c.worker(worker, 1, 5));
        refused.outOfBoundsOutside(0, 7, "shiftOf", Clocks::busy, (c, worker) -> c.shiftOf(worker, 0));
        refused.outOfBoundsOutside(0, 7, "breaches", Clocks::busy, (c, worker) -> c.breaches(worker, 0));
        refused.outOfBoundsOutside(0, 7, "wages", Clocks::busy, (c, worker) -> c.wages(worker));
    }

    private static void skillsAreSetsOf0To3() {
        due.sentence("Workers and shifts", "each with skills, a set of 0 to 3");
        for (int skills = 0; skills <= 15; skills++) {
            UnionClock clock = new UnionClock();
            for (int skill = 0; skill <= 3; skill++) {
                clock.shift(20 * skill, 5, skill);
            }
            for (int worker = 0; worker <= 7; worker++) {
                clock.worker(worker, skills, 10);
                for (int skill = 0; skill <= 3; skill++) {
                    holdsIf((skills & 1 << skill) != 0, clock, skill, worker);
                }
            }
        }
    }

    private static void holdsIf(boolean isDue, UnionClock clock, int shift, int worker) {
        int before = clock.holder(shift);
        if (isDue) {
            due.is("hold of " + shift + " by " + worker, clock.hold(shift, worker), before);
        } else {
            due.badState("hold of " + shift + " by " + worker, () -> clock.hold(shift, worker));
        }
        due.is("holder of " + shift, clock.holder(shift), isDue ? worker : before);
    }

    private static void noSkillsAtFirst() {
        due.sentence("Workers and shifts", "none at first");
        UnionClock clock = new UnionClock();
        for (int skill = 0; skill <= 3; skill++) {
            clock.shift(20 * skill, 5, skill);
        }
        for (int worker = 0; worker <= 7; worker++) {
            for (int shift = 0; shift <= 3; shift++) {
                holdsIf(false, clock, shift, worker);
            }
        }
    }

    private static void wageIs10AtFirst() {
        due.sentence("Workers and shifts", "and a wage in cents for an hour, 10 at first");
        UnionClock clock = new UnionClock();
        for (int worker = 0; worker <= 7; worker++) {
            due.is("the first wage of " + worker, clock.worker(worker, 1, 10 + worker), 10);
            Clocks.held(clock, 0, 3, worker);
        }
        clock.pass(3);
        for (int worker = 0; worker <= 7; worker++) {
            due.is("3 hours of " + worker, clock.wages(worker), 3 * (10 + worker));
        }
    }

    private static void atMost40Shifts() {
        due.sentence("Workers and shifts", "Shifts are numbered from 0, at most 40");
        UnionClock clock = Clocks.ofAllSkills();
        for (int number = 0; number < 40; number++) {
            int asked = number;
            due.outOfBounds("not planned yet", () -> clock.holder(asked));
            due.is("the next", clock.shift(20 * number + 10, 9, 0), number);
        }
        due.badState("the 41st", () -> clock.shift(10, 9, 0));
        due.is("39 is given", clock.hold(39, 7), NONE);
        due.is("39 is the first of 7", clock.shiftOf(7, 0), 39);
        due.is("39 has nothing ahead", clock.rest(39), 10000);
        due.yes("39 is long", clock.breaks(39, Clocks.read(clock, "LONG 8 PAY 1")));
        due.is("39 has a claim", clock.about(0), 73900);
        clock.hold(38, 6);
        due.is("39 is offered", clock.offer(39, 38), 0);
        Clocks.passTo(clock, 800);
        due.is("39 is stamped", clock.stamp(39, 790, 800), 1);
    }

    private static void shiftEnds1To16HoursBehindItsBegin() {
        due.sentence("Workers and shifts", "A shift has a begin and an end, 1 to 16 hours behind it");
        for (int hours = 1; hours <= 16; hours++) {
            UnionClock clock = Clocks.ofAllSkills();
            Clocks.held(clock, 100, hours, 0);
            int atEnd = clock.shift(100 + hours, 1, 0);
            int aheadOfEnd = clock.shift(99 + hours, 1, 0);
            due.badState("begins ahead of the end", () -> clock.hold(aheadOfEnd, 0));
            due.is("begins at the end", clock.hold(atEnd, 0), NONE);
            due.is("no rest", clock.rest(atEnd), 0);
            clock.hold(atEnd, NONE);
            Clocks.passTo(clock, 99 + hours);
            due.is("has not ended", clock.wages(0), 0);
            clock.pass(1);
            due.is("has ended", clock.wages(0), 10 * hours);
        }
    }

    private static void oneSkillAndNobodyAtFirst() {
        due.sentence("Workers and shifts", "one skill, and a worker who holds it, or none, as at first");
        UnionClock clock = new UnionClock();
        for (int skill = 0; skill <= 3; skill++) {
            clock.worker(skill, 1 << skill, 10);
            due.is("the shift", clock.shift(10, 5, skill), skill);
            due.is("nobody holds it", clock.holder(skill), NONE);
        }
        for (int shift = 0; shift <= 3; shift++) {
            for (int worker = 0; worker <= 3; worker++) {
                holdsIf(shift == worker, clock, shift, worker);
            }
            due.is("nobody again", clock.hold(shift, NONE), shift);
            due.is("nobody holds it", clock.holder(shift), NONE);
        }
    }

    private static void otherBeginAndEndByStamps() {
        due.sentence("Workers and shifts",
                "By its stamps a shift has another begin and end; without stamps those are the planned ones.");
        UnionClock clock = Clocks.ofAllSkills();
        int first = Clocks.held(clock, 10, 8, 0);
        int second = Clocks.held(clock, 30, 8, 0);
        due.is("planned end to planned begin", clock.rest(second), 12);
        Clocks.passTo(clock, 60);
        clock.stamp(first, 11, 20);
        due.is("stamped end to planned begin", clock.rest(second), 10);
        clock.stamp(second, 27, 28);
        due.is("stamped end to stamped begin", clock.rest(second), 7);
        due.is("9 hours and 1", clock.wages(0), 100);
        clock.hold(first, NONE);
        int third = Clocks.held(clock, 40, 8, 0);
        due.is("planned begin from stamped end", clock.rest(third), 12);
        clock.stamp(second, 30, 38);
        due.is("stamped as planned", clock.rest(third), 2);
    }

    private static void hoursByStamps() {
        due.sentence("Workers and shifts", "Its hours are its end less its begin, by stamps.");
        UnionClock clock = Clocks.ofAllSkills();
        int shift = Clocks.held(clock, 10, 8, 0);
        int rule = Clocks.read(clock, "LONG 8 PAY 100");
        due.no("8 as planned", clock.breaks(shift, rule));
        Clocks.passTo(clock, 60);
        due.is("8 as planned", clock.wages(0), 80);
        for (int hours = 1; hours <= 24; hours++) {
            clock.stamp(shift, 30, 30 + hours);
            due.is("the wages of " + hours, clock.wages(0), 10 * hours);
            due.is("long with " + hours, clock.breaks(shift, rule) ? 1 : 0, hours > 8 ? 1 : 0);
        }
        due.is("the worth of 24", clock.worth(0), 240);
    }

    private static void workerCanHold() {
        due.sentence("Workers and shifts", "A worker can hold a shift who has its skill, and");
        UnionClock clock = new UnionClock();
        int shift = clock.shift(10, 5, 2);
        clock.worker(0, 11, 10);
        clock.worker(1, 4, 10);
        holdsIf(false, clock, shift, 0);
        holdsIf(true, clock, shift, 1);
        clock.worker(1, 11, 10);
        holdsIf(false, clock, shift, 1);
        due.is("who has lost the skill keeps the shift", clock.holder(shift), 1);
    }

    private static void otherShiftsDoNotOverlap() {
        due.sentence("Workers and shifts", "whose other shifts do not overlap with it: "
                + "two shifts overlap if, as planned, each begins ahead of the end of the other one.");
        for (int begin = 100 - 7; begin <= 100 + 7; begin++) {
            for (int hours = 1; hours <= 7; hours++) {
                UnionClock clock = Clocks.ofAllSkills();
                Clocks.held(clock, 100, 5, 0);
                int other = clock.shift(begin, hours, 0);
                holdsIf(begin + hours <= 100 || begin >= 105, clock, other, 0);
                holdsIf(true, clock, other, 1);
            }
        }
        UnionClock clock = Clocks.ofAllSkills();
        int stamped = Clocks.held(clock, 10, 5, 0);
        due.is("it is no other one of itself", clock.hold(stamped, 0), 0);
        Clocks.passTo(clock, 60);
        clock.stamp(stamped, 40, 50);
        holdsIf(true, clock, clock.shift(40, 10, 0), 0);
        holdsIf(false, clock, clock.shift(14, 1, 0), 0);
        holdsIf(true, clock, clock.shift(15, 1, 0), 0);
    }

    private static void orderByBeginsThenNumbers() {
        due.sentence("Workers and shifts",
                "The order of the shifts of a worker is by their begins, by stamps, of several the lower number first.");
        UnionClock clock = Clocks.ofAllSkills();
        for (int shift = 0; shift < 5; shift++) {
            Clocks.held(clock, 40 - 10 * shift, 5, 3);
        }
        order(clock, 3, 4, 3, 2, 1, 0);
        Clocks.passTo(clock, 60);
        clock.stamp(2, 30, 31);
        order(clock, 3, 4, 3, 1, 2, 0);
        clock.stamp(0, 10, 34);
        order(clock, 3, 4, 0, 3, 1, 2);
        clock.stamp(4, 10, 11);
        order(clock, 3, 0, 3, 4, 1, 2);
        clock.stamp(3, 11, 12);
        order(clock, 3, 0, 4, 3, 1, 2);
        clock.stamp(1, 9, 33);
        order(clock, 3, 1, 0, 4, 3, 2);
        for (int shift = 4; shift >= 0; shift--) {
            clock.stamp(shift, 5, 5 + 4 * (shift + 1));
        }
        order(clock, 3, 0, 1, 2, 3, 4);
        clock.hold(2, NONE);
        order(clock, 3, 0, 1, 3, 4);
        clock.hold(2, 3);
        order(clock, 3, 0, 1, 2, 3, 4);
    }

    private static void order(UnionClock clock, int worker, int... shifts) {
        for (int place = 0; place < shifts.length; place++) {
            due.is("place " + place + " of worker " + worker, clock.shiftOf(worker, place), shifts[place]);
        }
        due.outOfBounds("no more shifts", () -> clock.shiftOf(worker, shifts.length));
    }

    // ---- Promise 1: a new object

    private static void newObject() {
        due.sentence("Promise 1", "No shifts, no rules; an empty text.");
        UnionClock clock = new UnionClock();
        due.is("the text is empty", clock.empty(), 0);
        due.is("the first word is missing", clock.wrongAt(), 0);
        due.is("no claims", clock.claims(), 0);
        due.is("no offers", clock.offers(), 0);
        for (int worker = 0; worker <= 7; worker++) {
            int asked = worker;
            due.outOfBounds("no shift of " + worker, () -> clock.shiftOf(asked, 0));
            due.is("no wages of " + worker, clock.wages(worker), 0);
        }
        refused.outOfBounds("no shift", UnionClock::new, c -> c.holder(0));
        refused.outOfBounds("no shift", UnionClock::new, c -> c.rest(0));
        refused.outOfBounds("no shift", UnionClock::new, c -> c.hold(0, NONE));
        refused.outOfBounds("no shift", UnionClock::new, c -> c.stamp(0, 0, 1));
        refused.outOfBounds("no shift", UnionClock::new, c -> c.offer(0, 0));
        refused.outOfBounds("no rule", UnionClock::new, c -> c.drop(0));
        refused.outOfBounds("no rule", UnionClock::new, c -> c.breaks(0, 0));
        refused.outOfBounds("no claim", UnionClock::new, c -> c.state(0));
        refused.outOfBounds("no offer", UnionClock::new, c -> c.ring(0));
        refused.badArgument("no text", UnionClock::new, c -> c.read());
        due.is("the first shift", clock.shift(0, 1, 0), 0);
        due.is("the first rule", Clocks.read(clock, "LONG 1 PAY 1"), 0);
    }

    // ---- Promise 2: pass

    private static void pass() {
        passReturnsNow();
        passTakes1To200Hours();
        passRefusesOtherHours();
        passEndsAt2000();
    }

    private static void passReturnsNow() {
        due.sentence("Promise 2", "Lets hours pass.", "Returns now.");
        UnionClock clock = Clocks.ofAllSkills();
        int shift = Clocks.held(clock, 0, 1, 0);
        int now = 0;
        for (int hours = 1; hours <= 12; hours++) {
            now += hours;
            due.is("pass(" + hours + ")", clock.pass(hours), now);
            int end = now;
            due.is("now", clock.stamp(shift, now - 1, now), 0);
            due.badArgument("behind now", () -> clock.stamp(shift, end, end + 1));
        }
    }

    private static void passTakes1To200Hours() {
        due.sentence("Promise 2", "`hours`: 1 to 200");
        for (int hours = 1; hours <= 200; hours++) {
            due.is("pass(" + hours + ")", new UnionClock().pass(hours), hours);
        }
        UnionClock clock = at(1800);
        due.is("200 to the end", clock.pass(200), 2000);
    }

    private static void passRefusesOtherHours() {
        due.sentence("Promise 2", "Throws `IllegalArgumentException` if hours is out of its range");
        refused.badArgumentOutside(1, 200, "pass", Clocks::busy, UnionClock::pass);
        refused.badArgumentOutside(1, 200, "at 0, pass", UnionClock::new, UnionClock::pass);
        refused.badArgumentOutside(1, 200, "behind the end comes second, pass", () -> at(2000), UnionClock::pass);
        refused.badArgument("behind the end comes second", () -> at(1900), clock -> clock.pass(201));
    }

    private static void passEndsAt2000() {
        due.sentence("Promise 2", "Throws `IllegalStateException` if now would be above 2000");
        for (int hours : new int[] {1, 2, 100, 199, 200}) {
            due.is("pass(" + hours + ") to 2000", at(2000 - hours).pass(hours), 2000);
            refused.badState("pass(" + hours + ") to 2001", () -> at(2001 - hours), clock -> clock.pass(hours));
        }
        refused.badState("pass(200) from 2000", () -> at(2000), clock -> clock.pass(200));
    }

    // ---- Promise 3: worker

    private static void worker() {
        workerSetsSkillsAndWage();
        workerTakesSkills0To15();
        workerTakesWages0To1000();
        workerOutOfBounds();
        workerRefusesOtherNumbers();
    }

    private static void workerSetsSkillsAndWage() {
        due.sentence("Promise 3", "Sets the skills and the wage of a worker; shifts that the worker holds stay.");
        UnionClock clock = Clocks.busy();
        int claims = clock.claims();
        due.is("the wage before", clock.worker(3, 0, 7), 40);
        due.is("shift 4 stays", clock.holder(4), 3);
        due.is("shift 7 stays", clock.holder(7), 3);
        order(clock, 3, 4, 7);
        due.is("its offers stay", clock.ring(0), 3);
        due.is("nothing is judged", clock.claims(), claims);
        due.is("the claim stays", clock.state(3), 0);
        due.is("the claim has the new wage", clock.worth(3), 16 * 7 * 50 / 100);
        due.badState("the skills are gone", () -> clock.hold(8, 3));
        due.is("another worker has them still", clock.hold(8, 2), NONE);
        due.is("another worker has its wage still", clock.worker(2, 15, 10), 30);
    }

    private static void workerTakesSkills0To15() {
        due.sentence("Promise 3", "`skills`: 0 to 15, a set");
        for (int skills = 0; skills <= 15; skills++) {
            UnionClock clock = new UnionClock();
            due.is("skills " + skills, clock.worker(5, skills, 10), 10);
            for (int skill = 0; skill <= 3; skill++) {
                holdsIf(skills / (1 << skill) % 2 == 1, clock, clock.shift(20 * skill, 5, skill), 5);
            }
        }
    }

    private static void workerTakesWages0To1000() {
        due.sentence("Promise 3", "`wage`: 0 to 1000", "Returns the wage before.");
        UnionClock clock = new UnionClock();
        due.is("10 before", clock.worker(0, 1, 0), 10);
        due.is("0 before", clock.worker(0, 1, 1000), 0);
        due.is("1000 before", clock.worker(0, 1, 999), 1000);
        due.is("999 before", clock.worker(0, 1, 1), 999);
        due.is("1 before", clock.worker(0, 1, 1000), 1);
        Clocks.held(clock, 0, 16, 0);
        clock.pass(16);
        due.is("16 hours of 1000", clock.wages(0), 16000);
        clock.worker(0, 1, 0);
        due.is("16 hours of 0", clock.wages(0), 0);
    }

    private static void workerOutOfBounds() {
        due.sentence("Promise 3", "`worker`: the worker",
                "Throws `IndexOutOfBoundsException` if there is no such worker");
        refused.outOfBoundsOutside(0, 7, "worker", Clocks::busy, (clock, worker) -> clock.worker(worker, 15, 10));
        refused.outOfBoundsOutside(0, 7, "bad skills come second", Clocks::busy,
                (clock, worker) -> clock.worker(worker, 16, 10));
        refused.outOfBoundsOutside(0, 7, "a bad wage comes second", Clocks::busy,
                (clock, worker) -> clock.worker(worker, 15, 1001));
    }

    private static void workerRefusesOtherNumbers() {
        due.sentence("Promise 3", "Throws `IllegalArgumentException` if skills or wage is out of its range");
        refused.badArgumentOutside(0, 15, "skills", Clocks::busy, (clock, skills) -> clock.worker(2, skills, 77));
        refused.badArgumentOutside(0, 1000, "wage", Clocks::busy, (clock, wage) -> clock.worker(2, 0, wage));
        refused.badArgument("both", Clocks::busy, clock -> clock.worker(2, -1, 1001));
        refused.badArgument("both", Clocks::busy, clock -> clock.worker(2, 16, -1));
    }

    // ---- Promise 4: shift

    private static void shift() {
        shiftTakesBegins0To2000();
        shiftTakes1To16Hours();
        shiftTakesSkills0To3();
        shiftRefusesOtherNumbers();
        shiftRefusedWhenThereAre40();
    }

    private static void shiftTakesBegins0To2000() {
        due.sentence("Promise 4", "Plans a shift.", "`begin`: its begin, 0 to 2000", "Returns its number.");
        UnionClock clock = Clocks.ofAllSkills();
        due.is("begin 0", clock.shift(0, 16, 0), 0);
        due.is("begin 1999", clock.shift(1999, 1, 0), 1);
        due.is("begin 2000", clock.shift(2000, 16, 0), 2);
        for (int shift = 0; shift <= 2; shift++) {
            due.is("free", clock.hold(shift, 0), NONE);
        }
        due.is("from 16 to 1999", clock.rest(1), 1983);
        due.is("from 2000 to 2000", clock.rest(2), 0);
        Clocks.passTo(clock, 2000);
        due.is("a shift in the past", clock.shift(0, 1, 0), 3);
        due.is("the one that begins at 2000 does not end", clock.wages(0), 170);
    }

    private static void shiftTakes1To16Hours() {
        due.sentence("Promise 4", "`hours`: 1 to 16");
        UnionClock clock = Clocks.ofAllSkills();
        Clocks.passTo(clock, 40);
        for (int hours = 1; hours <= 16; hours++) {
            int shift = Clocks.held(clock, 10, hours, hours % 8);
            due.is("the next", shift, hours - 1);
            due.is("the hours of " + shift, clock.wages(hours % 8), 10 * (hours % 8 + 1) * hours);
            due.is("hours less than planned", clock.stamp(shift, 0, 1), 1 - hours);
            clock.hold(shift, NONE);
        }
    }

    private static void shiftTakesSkills0To3() {
        due.sentence("Promise 4", "`skill`: 0 to 3");
        UnionClock clock = new UnionClock();
        for (int skill = 0; skill <= 3; skill++) {
            clock.worker(0, 15 - (1 << skill), 10);
            clock.worker(1, 1 << skill, 10);
            int shift = clock.shift(20 * skill, 5, skill);
            due.is("the next", shift, skill);
            holdsIf(false, clock, shift, 0);
            holdsIf(true, clock, shift, 1);
        }
    }

    private static void shiftRefusesOtherNumbers() {
        due.sentence("Promise 4", "Throws `IllegalArgumentException` if begin, hours or skill is out of its range");
        refused.badArgumentOutside(0, 2000, "begin", Clocks::busy, (clock, begin) -> clock.shift(begin, 1, 0));
        refused.badArgumentOutside(1, 16, "hours", Clocks::busy, (clock, hours) -> clock.shift(0, hours, 0));
        refused.badArgumentOutside(0, 3, "skill", Clocks::busy, (clock, skill) -> clock.shift(0, 1, skill));
        refused.badArgument("all three", Clocks::busy, clock -> clock.shift(2001, 17, 4));
        refused.badArgument("40 come second: begin", Clocks::fullOfShifts, clock -> clock.shift(-1, 1, 0));
        refused.badArgument("40 come second: begin", Clocks::fullOfShifts, clock -> clock.shift(2001, 1, 0));
        refused.badArgument("40 come second: hours", Clocks::fullOfShifts, clock -> clock.shift(0, 0, 0));
        refused.badArgument("40 come second: hours", Clocks::fullOfShifts, clock -> clock.shift(0, 17, 0));
        refused.badArgument("40 come second: skill", Clocks::fullOfShifts, clock -> clock.shift(0, 1, -1));
        refused.badArgument("40 come second: skill", Clocks::fullOfShifts, clock -> clock.shift(0, 1, 4));
    }

    private static void shiftRefusedWhenThereAre40() {
        due.sentence("Promise 4", "Throws `IllegalStateException` if there are 40");
        UnionClock clock = Clocks.ofAllSkills();
        for (int shift = 0; shift < 39; shift++) {
            clock.shift(0, 1, 0);
        }
        due.is("there are 39", clock.shift(2000, 16, 3), 39);
        due.badState("there are 40", () -> clock.shift(2000, 16, 3));
        refused.badState("there are 40", Clocks::fullOfShifts, c -> c.shift(0, 1, 0));
        refused.badState("there are 40", Clocks::fullOfShifts, c -> c.shift(2000, 16, 3));
    }

    // ---- Promise 5: hold

    private static void hold() {
        holdGivesAShift();
        holdByNobody();
        holdOutOfBounds();
        holdRefused();
        holdRefusedToOneWhoHoldsIt();
    }

    private static void holdGivesAShift() {
        due.sentence("Promise 5", "Gives a shift to a worker, whoever held it.", "Returns who held it before; NONE.");
        UnionClock clock = Clocks.ofAllSkills();
        int shift = clock.shift(10, 5, 0);
        int before = NONE;
        for (int worker = 0; worker <= 7; worker++) {
            due.is("held by " + before, clock.hold(shift, worker), before);
            due.is("held by " + worker, clock.holder(shift), worker);
            due.is("held by " + worker + " still", clock.hold(shift, worker), worker);
            order(clock, worker, shift);
            before = worker;
        }
        for (int worker = 0; worker < 7; worker++) {
            order(clock, worker);
        }
    }

    private static void holdByNobody() {
        due.sentence("Promise 5", "`worker`: the worker, or NONE: nobody holds it then");
        UnionClock clock = Clocks.ofAllSkills();
        int shift = clock.shift(10, 5, 0);
        due.is("nobody to nobody", clock.hold(shift, NONE), NONE);
        due.is("nobody holds it", clock.holder(shift), NONE);
        clock.hold(shift, 0);
        due.is("0 to nobody", clock.hold(shift, UnionClock.NONE), 0);
        due.is("nobody holds it", clock.holder(shift), NONE);
        order(clock, 0);
        clock.hold(shift, 7);
        clock.worker(7, 0, 10);
        due.is("from one who cannot hold it", clock.hold(shift, NONE), 7);
        order(clock, 7);
    }

    private static void holdOutOfBounds() {
        due.sentence("Promise 5", "`shift`: the shift",
                "Throws `IndexOutOfBoundsException` if there is no such shift, or worker, and it is not NONE");
        due.is("the first", Clocks.busy().hold(0, 0), 0);
        due.is("the last", Clocks.busy().hold(8, 5), NONE);
        refused.outOfBoundsOutside(0, 8, "shift", Clocks::busy, (clock, shift) -> clock.hold(shift, 0));
        refused.outOfBoundsOutside(0, 8, "shift, to nobody", Clocks::busy, (clock, shift) -> clock.hold(shift, NONE));
        refused.outOfBoundsOutside(0, 39, "shift of 40", Clocks::fullOfShifts, (clock, shift) -> clock.hold(shift, 5));
        refused.outOfBounds("worker 8", Clocks::busy, clock -> clock.hold(8, 8));
        refused.outOfBounds("worker -2", Clocks::busy, clock -> clock.hold(8, -2));
        refused.outOfBounds("lowest worker", Clocks::busy, clock -> clock.hold(8, LOWEST));
        refused.outOfBounds("highest worker", Clocks::busy, clock -> clock.hold(8, HIGHEST));
        refused.outOfBounds("neither", Clocks::busy, clock -> clock.hold(9, 8));
        refused.outOfBounds("no shift, a worker without skills", Clocks::busy, clock -> clock.hold(9, 6));
    }

    private static void holdRefused() {
        due.sentence("Promise 5", "Throws `IllegalStateException` if the worker cannot hold it");
        refused.badState("without any skill", Clocks::busy, clock -> clock.hold(8, 6));
        refused.badState("without the skill", Clocks::busy, clock -> clock.hold(1, 7));
        due.is("with the skill", Clocks.busy().hold(2, 7), 1);
        Refusals.Making making = () -> {
            UnionClock clock = Clocks.busy();
            clock.shift(92, 9, 1);
            clock.shift(107, 1, 1);
            clock.shift(92, 8, 1);
            clock.shift(108, 1, 1);
            return clock;
        };
        refused.badState("one hour too late", making, clock -> clock.hold(9, 3));
        refused.badState("one hour too early", making, clock -> clock.hold(10, 3));
        due.is("ends at the begin", making.clock().hold(11, 3), NONE);
        due.is("begins at the end", making.clock().hold(12, 3), NONE);
    }

    private static void holdRefusedToOneWhoHoldsIt() {
        due.sentence("Promise 5", "(asked as well of one who holds it)");
        Refusals.Making making = () -> {
            UnionClock clock = Clocks.busy();
            clock.worker(3, 11, 40);
            return clock;
        };
        due.is("with the skill of 4", making.clock().hold(4, 3), 3);
        refused.badState("without the skill of 7", making, clock -> clock.hold(7, 3));
        due.is("with all skills", Clocks.busy().hold(7, 3), 3);
        refused.changesNothing("held again", Clocks::busy, clock -> clock.hold(7, 3));
        refused.changesNothing("held by nobody again", Clocks::busy, clock -> clock.hold(8, NONE));
    }

    // ---- Promise 6: stamp

    private static void stamp() {
        stampLateAndAgain();
        stampBeginsUpToNow();
        stampEnds1To24HoursBehindBegin();
        stampReturnsHoursMore();
        stampOutOfBounds();
        stampRefusesOtherHours();
        stampRefusedIfNobodyHoldsIt();
        stampRefused101HoursBehind();
    }

    /** At hour 60: shift 0 is held and planned from 10 to 18, shift 1 as well by another, shift 2 is free. */
    private static UnionClock toStamp() {
        UnionClock clock = Clocks.ofAllSkills();
        Clocks.held(clock, 10, 8, 0);
        Clocks.held(clock, 10, 8, 1);
        clock.shift(10, 8, 0);
        Clocks.read(clock, "LONG 8 PAY 50");
        Clocks.passTo(clock, 60);
        return clock;
    }

    private static void stampLateAndAgain() {
        due.sentence("Promise 6", "Tells the stamps of a shift, which may come late, and come again.");
        UnionClock clock = toStamp();
        clock.pass(58);
        due.is("late", clock.stamp(0, 11, 20), 1);
        due.is("9 hours", clock.wages(0), 90);
        due.is("again", clock.stamp(0, 100, 110), 2);
        due.is("10 hours", clock.wages(0), 100);
        due.is("again the same", clock.stamp(0, 100, 110), 2);
        due.is("10 hours", clock.wages(0), 100);
        due.is("again as planned", clock.stamp(0, 10, 18), 0);
        due.is("8 hours", clock.wages(0), 80);
        due.is("another shift has none", clock.wages(1), 160);
    }

    private static void stampBeginsUpToNow() {
        due.sentence("Promise 6", "`begin`: when it began, up to now");
        due.is("from hour 0", toStamp().stamp(0, 0, 1), -7);
        due.is("from the last hour ahead of now", toStamp().stamp(0, 59, 60), -7);
        due.badArgument("from now: no end is up to now", () -> toStamp().stamp(0, 60, 61));
        due.is("from now, an hour later", later().stamp(0, 60, 61), -7);
        refused.badArgument("from now", TimeAndShiftsBoundsTest::toStamp, clock -> clock.stamp(0, 60, 61));
        refused.badArgument("from behind now", TimeAndShiftsBoundsTest::toStamp, clock -> clock.stamp(0, 61, 62));
        due.badArgument("at hour 0", () -> {
            UnionClock clock = Clocks.ofAllSkills();
            Clocks.held(clock, 0, 1, 0);
            clock.stamp(0, 0, 1);
        });
    }

    private static UnionClock later() {
        UnionClock clock = toStamp();
        clock.pass(1);
        return clock;
    }

    private static void stampEnds1To24HoursBehindBegin() {
        due.sentence("Promise 6", "`end`: when it ended, 1 to 24 hours behind begin, up to now");
        for (int hours = 1; hours <= 24; hours++) {
            due.is(hours + " hours from 0", toStamp().stamp(0, 0, hours), hours - 8);
            due.is(hours + " hours up to now", toStamp().stamp(0, 60 - hours, 60), hours - 8);
        }
        Refusals.Making making = TimeAndShiftsBoundsTest::toStamp;
        refused.badArgument("0 hours", making, clock -> clock.stamp(0, 20, 20));
        refused.badArgument("-1 hours", making, clock -> clock.stamp(0, 20, 19));
        refused.badArgument("25 hours", making, clock -> clock.stamp(0, 20, 45));
        refused.badArgument("25 hours up to now", making, clock -> clock.stamp(0, 35, 60));
        refused.badArgument("24 hours up to behind now", making, clock -> clock.stamp(0, 37, 61));
        refused.badArgument("2 hours up to behind now", making, clock -> clock.stamp(0, 59, 61));
    }

    private static void stampReturnsHoursMore() {
        due.sentence("Promise 6", "Returns how many hours more than planned it has.");
        UnionClock clock = Clocks.ofAllSkills();
        for (int hours = 1; hours <= 16; hours++) {
            Clocks.held(clock, 20 * hours, hours, hours % 8);
        }
        Clocks.passTo(clock, 120);
        for (int hours = 1; hours <= 16; hours++) {
            int shift = hours - 1;
            due.is("fewest", clock.stamp(shift, 50, 51), 1 - hours);
            due.is("as many", clock.stamp(shift, 50, 50 + hours), 0);
            due.is("one more", clock.stamp(shift, 50, 51 + hours), 1);
            due.is("most", clock.stamp(shift, 96, 120), 24 - hours);
        }
    }

    private static void stampOutOfBounds() {
        due.sentence("Promise 6", "`shift`: the shift", "Throws `IndexOutOfBoundsException` if there is no such shift");
        due.is("the last held", toStamp().stamp(1, 10, 18), 0);
        refused.outOfBoundsOutside(0, 2, "shift", TimeAndShiftsBoundsTest::toStamp,
                (clock, shift) -> clock.stamp(shift, 10, 18));
        refused.outOfBoundsOutside(0, 2, "bad hours come second, shift", TimeAndShiftsBoundsTest::toStamp,
                (clock, shift) -> clock.stamp(shift, -1, 99));
        refused.outOfBoundsOutside(0, 39, "of 40, shift", Clocks::fullOfShifts,
                (clock, shift) -> clock.stamp(shift, 0, 1));
    }

    private static void stampRefusesOtherHours() {
        due.sentence("Promise 6", "Throws `IllegalArgumentException` if begin or end is out of its range, or below 0");
        Refusals.Making making = TimeAndShiftsBoundsTest::toStamp;
        refused.badArgumentOutside(0, 59, "begin", making, (clock, begin) -> clock.stamp(0, begin, begin + 1));
        refused.badArgumentOutside(0, 59, "begin, as if over the end", making,
                (clock, begin) -> clock.stamp(0, begin, 18));
        refused.badArgumentOutside(11, 34, "end", making, (clock, end) -> clock.stamp(0, 10, end));
        refused.badArgumentOutside(51, 60, "end up to now", making, (clock, end) -> clock.stamp(0, 50, end));
        refused.badArgumentOutside(1, 24, "end, from 0", making, (clock, end) -> clock.stamp(0, 0, end));
        refused.badArgument("from -1 to 0", making, clock -> clock.stamp(0, -1, 0));
        refused.badArgument("from -1 to 5", making, clock -> clock.stamp(0, -1, 5));
        refused.badArgument("both below 0", making, clock -> clock.stamp(0, -5, -1));
        refused.badArgument("highest to lowest", making, clock -> clock.stamp(0, HIGHEST, LOWEST));
        refused.badArgument("highest - 10 to lowest + 10", making, clock -> clock.stamp(0, HIGHEST - 10, LOWEST + 10));
        refused.badArgument("lowest to lowest + 1", making, clock -> clock.stamp(0, LOWEST, LOWEST + 1));
        refused.badArgument("nobody holding it comes second", making, clock -> clock.stamp(2, 10, 35));
        refused.badArgument("nobody holding it comes second", making, clock -> clock.stamp(2, -1, 5));
        refused.badArgument("being late comes second", TimeAndShiftsBoundsTest::tooLate,
                clock -> clock.stamp(0, 10, 10));
        refused.badArgument("being late comes second", TimeAndShiftsBoundsTest::tooLate,
                clock -> clock.stamp(0, -1, 5));
    }

    private static void stampRefusedIfNobodyHoldsIt() {
        due.sentence("Promise 6", "Throws `IllegalStateException` if nobody holds it, or");
        refused.badState("never held", TimeAndShiftsBoundsTest::toStamp, clock -> clock.stamp(2, 10, 18));
        refused.badState("held no more", Clocks::busy, clock -> clock.stamp(3, 50, 55));
        UnionClock clock = Clocks.busy();
        clock.hold(3, 0);
        due.is("held again", clock.stamp(3, 50, 55), 0);
    }

    /** As to stamp, but 101 hours behind the planned end. */
    private static UnionClock tooLate() {
        UnionClock clock = toStamp();
        clock.stamp(1, 50, 60);
        Clocks.passTo(clock, 119);
        return clock;
    }

    private static void stampRefused101HoursBehind() {
        due.sentence("Promise 6", "now is more than 100 hours behind its planned end");
        UnionClock clock = toStamp();
        Clocks.passTo(clock, 118);
        due.is("100 hours behind", clock.stamp(0, 10, 18), 0);
        due.is("100 hours behind, again", clock.stamp(0, 117, 118), -7);
        clock.pass(1);
        due.badState("101 hours behind", () -> clock.stamp(0, 10, 18));
        refused.badState("101 hours behind", TimeAndShiftsBoundsTest::tooLate, c -> c.stamp(0, 10, 18));
        refused.badState("the stamped end does not count", TimeAndShiftsBoundsTest::tooLate, c -> c.stamp(1, 10, 18));
        UnionClock early = toStamp();
        int future = Clocks.held(early, 500, 16, 2);
        due.is("ahead of its planned begin", early.stamp(future, 0, 16), 0);
        Clocks.passTo(early, 616);
        due.is("100 hours behind the longest", early.stamp(future, 600, 616), 0);
        early.pass(1);
        due.badState("101 hours behind the longest", () -> early.stamp(future, 600, 616));
        UnionClock last = at(2000);
        due.is("at 2000, planned up to 1900", last.stamp(Clocks.held(last, 1890, 10, 0), 1999, 2000), -9);
        int tooEarly = Clocks.held(last, 1889, 10, 1);
        due.badState("at 2000, planned up to 1899", () -> last.stamp(tooEarly, 1999, 2000));
    }

    // ---- Promises 7 to 9: holder, shiftOf, rest

    private static void holder() {
        due.sentence("Promise 7", "Returns who holds a shift.", "`shift`: the shift", "Returns the worker; NONE.");
        UnionClock clock = Clocks.busy();
        int[] holders = {0, 0, 1, NONE, 3, 4, 5, 3, NONE};
        for (int shift = 0; shift < holders.length; shift++) {
            due.is("holder(" + shift + ")", clock.holder(shift), holders[shift]);
        }
        refused.changesNothing("holder", Clocks::busy, c -> c.holder(0));
        due.sentence("Promise 7", "Throws `IndexOutOfBoundsException` if there is no such shift");
        refused.outOfBoundsOutside(0, 8, "holder", Clocks::busy, UnionClock::holder);
        due.is("holder(39)", Clocks.fullOfShifts().holder(39), 1);
        refused.outOfBoundsOutside(0, 39, "of 40, holder", Clocks::fullOfShifts, UnionClock::holder);
    }

    private static void shiftOf() {
        due.sentence("Promise 8", "Returns a shift of a worker.",
                "`place`: 0 for the first one in the order of the worker",
                "Returns the shift.");
        UnionClock clock = Clocks.fullOfShifts();
        for (int place = 0; place < 20; place++) {
            due.is("of 0, place " + place, clock.shiftOf(0, place), 2 * place);
            due.is("of 1, place " + place, clock.shiftOf(1, place), 2 * place + 1);
        }
        for (int shift = 1; shift < 40; shift += 2) {
            clock.hold(shift, 0);
        }
        due.is("the 40th", clock.shiftOf(0, 39), 39);
        due.outOfBounds("the 41st", () -> clock.shiftOf(0, 40));
        due.outOfBounds("none left", () -> clock.shiftOf(1, 0));
        refused.changesNothing("shiftOf", Clocks::busy, c -> c.shiftOf(0, 1));
        due.sentence("Promise 8", "`worker`: the worker",
                "Throws `IndexOutOfBoundsException` if there is no such worker, or not so many shifts");
        refused.outOfBoundsOutside(0, 7, "worker", Clocks::busy, (c, worker) -> c.shiftOf(worker, 0));
        refused.outOfBoundsOutside(0, 1, "place of two", Clocks::busy, (c, place) -> c.shiftOf(0, place));
        refused.outOfBoundsOutside(0, 0, "place of one", Clocks::busy, (c, place) -> c.shiftOf(1, place));
        refused.outOfBoundsOutside(0, -1, "place of none", Clocks::busy, (c, place) -> c.shiftOf(2, place));
        refused.outOfBoundsOutside(0, 19, "place of 20", Clocks::fullOfShifts, (c, place) -> c.shiftOf(1, place));
    }

    private static void rest() {
        restIsBeginLessEnd();
        restBelow0();
        restOfNone();
        due.sentence("Promise 9", "`shift`: the shift", "Throws `IndexOutOfBoundsException` if there is no such shift");
        refused.outOfBoundsOutside(0, 8, "rest", Clocks::busy, UnionClock::rest);
        refused.outOfBoundsOutside(0, 39, "of 40, rest", Clocks::fullOfShifts, UnionClock::rest);
        refused.changesNothing("rest", Clocks::busy, clock -> clock.rest(1));
    }

    private static void restIsBeginLessEnd() {
        due.sentence("Promise 9", "Returns the rest ahead of a shift.",
                "Returns its begin less the end of the shift just ahead of it in the order of its worker, both by stamps");
        UnionClock clock = Clocks.ofAllSkills();
        int first = Clocks.held(clock, 0, 1, 0);
        int last = Clocks.held(clock, 2000, 1, 0);
        due.is("most", clock.rest(last), 1999);
        int middle = Clocks.held(clock, 1, 16, 0);
        due.is("none", clock.rest(middle), 0);
        due.is("less", clock.rest(last), 1983);
        Clocks.passTo(clock, 60);
        clock.stamp(first, 20, 30);
        due.is("the one just ahead is another, by stamps", clock.rest(last), 1970);
        due.is("ahead of that, too", clock.rest(first), 3);
        clock.stamp(middle, 18, 19);
        due.is("both by stamps", clock.rest(first), 1);
    }

    private static void restBelow0() {
        due.sentence("Promise 9", "perhaps below 0");
        UnionClock clock = Clocks.ofAllSkills();
        int first = Clocks.held(clock, 10, 5, 0);
        int second = Clocks.held(clock, 20, 5, 0);
        Clocks.passTo(clock, 60);
        clock.stamp(first, 10, 20);
        due.is("0", clock.rest(second), 0);
        clock.stamp(first, 10, 21);
        due.is("-1", clock.rest(second), -1);
        clock.stamp(first, 20, 44);
        due.is("-24, at the same begin", clock.rest(second), -24);
        clock.stamp(second, 19, 43);
        due.is("-23, the other way", clock.rest(first), -23);
    }

    private static void restOfNone() {
        due.sentence("Promise 9", "10000 if there is none, or nobody holds it.");
        UnionClock clock = Clocks.ofAllSkills();
        int free = clock.shift(20, 5, 0);
        due.is("nobody holds any", clock.rest(free), 10000);
        int first = Clocks.held(clock, 10, 5, 0);
        due.is("nobody holds it", clock.rest(free), 10000);
        due.is("none ahead", clock.rest(first), 10000);
        clock.hold(free, 1);
        due.is("none ahead of the one of another", clock.rest(free), 10000);
        clock.hold(free, 0);
        due.is("one ahead", clock.rest(free), 5);
        clock.hold(free, NONE);
        due.is("nobody holds it any more", clock.rest(free), 10000);
        Clocks.passTo(clock, 60);
        clock.stamp(first, 0, 1);
        due.is("none ahead of hour 0", clock.rest(first), 10000);
    }
}
